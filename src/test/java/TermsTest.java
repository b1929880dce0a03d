import java.math.BigInteger;
import java.util.Random;

/**
 * What the document says before its promises, of the whole: runs of calls, always the same ones, in which it must hold
 * after each call. It knows no single answer, so a fault that CurvesModel shares with the class would still show here.
 */
public final class TermsTest {
    private static final int RUNS = 2000, STEPS = 50, MOST_CALLS = 512;
    private static final int POOLS = 4, KINDS = 15;
    private static final String[] NAMES = {"mint", "join", "leave", "swap", "flash", "tick", "batch", "order", "clear",
        "rate", "lend", "redeem", "loan", "pay", "close"};
    private static final Checks CHECKS = new Checks();
    private static final long[] DONE = new long[KINDS];

    private final Random random;
    private final ExactCurves x = new ExactCurves();
    private final long wealth;
    /** What the ORDERS that wait were given, of each TOKEN: no call tells it. */
    private final long[] ordered = new long[4];
    private int tokenA = 0, tokenB = 1;
    private int calls;
    private String latest = "";

    private TermsTest(int seed) {
        random = new Random(seed);
        wealth = BigInteger.TEN.pow(1 + random.nextInt(13)).longValueExact();
    }

    public static void main(String[] args) {
        for (int seed = 0; seed < RUNS && !CHECKS.hasWrong(); seed++) {
            new TermsTest(seed).run(seed);
        }
        for (int kind = 0; kind < KINDS; kind++) {
            CHECKS.holds("the runs did " + NAMES[kind] + " well, not " + DONE[kind] + " times", DONE[kind] > 100);
        }
        for (int seed = 0; seed < RUNS && !CHECKS.hasWrong(); seed++) {
            new TermsTest(seed).goThereAndBack(seed);
        }
        CHECKS.end();
    }

    private void run(int seed) {
        begin();
        int pool = random.nextInt(POOLS);
        int token = random.nextInt(4);
        BigInteger[] poolBefore = poolNow(pool);
        BigInteger[] vaultBefore = vaultNow(token);
        for (int i = 0; i < STEPS; i++) {
            int kind = random.nextInt(KINDS);
            DONE[kind] += step(kind) >= 0 ? 1 : 0;
            BigInteger[] poolAfter = poolNow(pool);
            BigInteger[] vaultAfter = vaultNow(token);
            String place = "seed " + seed + ", step " + i + ", " + latest + ": ";
            poolNeverFalls(place, pool, poolBefore, poolAfter);
            vaultNeverFalls(place, vaultBefore, vaultAfter);
            poolBefore = poolAfter;
            vaultBefore = vaultAfter;
            if (i == STEPS / 2) {
                nothingIsMadeOrLost(place);
            }
        }
        nothingIsMadeOrLost("seed " + seed + ", at its end: ");
        CHECKS.holds("seed " + seed + " keeps to the calls of an object, not " + calls, calls <= MOST_CALLS);
    }

    // ---- "pools whose product or sum never falls", "whatever is cut off stays where it was"

    private static BigInteger big(long n) {
        return BigInteger.valueOf(n);
    }

    private BigInteger[] poolNow(int pool) {
        calls += 3;
        return new BigInteger[] {big(x.of(pool, 0)), big(x.of(pool, 1)), big(x.of(pool, 2))};
    }

    private BigInteger[] vaultNow(int token) {
        calls += 2;
        return new BigInteger[] {big(x.vault(token, 1)), big(x.vault(token, 2))};
    }

    private static boolean isSum(int pool) {
        return pool % 2 == 1;
    }

    /** What one SHARE has in the POOL, of the product by its square, must not become less. */
    private static void poolNeverFalls(String place, int pool, BigInteger[] before, BigInteger[] after) {
        BigInteger held = isSum(pool) ? before[0].add(before[1]) : before[0].multiply(before[1]);
        BigInteger holds = isSum(pool) ? after[0].add(after[1]) : after[0].multiply(after[1]);
        BigInteger sharesBefore = isSum(pool) ? before[2] : before[2].pow(2);
        BigInteger sharesAfter = isSum(pool) ? after[2] : after[2].pow(2);
        CHECKS.holds(place + "a POOL has for each SHARE what it came with", holds.compareTo(sharesAfter) >= 0);
        CHECKS.holds(place + "a POOL without SHARES is empty", after[2].signum() > 0 || holds.signum() == 0);
        if (before[2].signum() > 0 && after[2].signum() > 0) {
            CHECKS.holds(place + "a POOL's product or sum does not fall",
                holds.multiply(sharesBefore).compareTo(held.multiply(sharesAfter)) >= 0);
        }
    }

    private static void vaultNeverFalls(String place, BigInteger[] before, BigInteger[] after) {
        CHECKS.holds(place + "a PART is worth what it came with", after[0].compareTo(after[1]) >= 0);
        if (before[1].signum() > 0 && after[1].signum() > 0) {
            CHECKS.holds(place + "what a PART is worth does not fall",
                after[0].multiply(before[1]).compareTo(before[0].multiply(after[1])) >= 0);
        }
    }

    // ---- "How much there is of a TOKEN in all (BALANCES, POOLS, ORDERS, VAULTS, COVERS, the HOUSE)"

    private void nothingIsMadeOrLost(String place) {
        long[] found = ordered.clone();
        for (int token = 0; token < 4; token++) {
            for (int player = 0; player < 6; player++) {
                found[token] += x.balance(player, token);
            }
            found[token] += x.vault(token, 0) + x.house(token);
        }
        for (int pool = 0; pool < POOLS; pool++) {
            found[one(pool)] += x.of(pool, 0);
            found[two(pool)] += x.of(pool, 1);
        }
        for (int loan = 0; loan < 10; loan++) {
            int pool = (int) x.ofLoan(loan, 1);
            if (pool >= 0) {
                found[x.ofLoan(loan, 2) == 0 ? one(pool) : two(pool)] += x.ofLoan(loan, 3);
            }
        }
        for (int token = 0; token < 4; token++) {
            CHECKS.due(place + "total(" + token + ")", x.total(token), found[token]);
            CHECKS.holds(place + "the HOUSE owes nothing of " + token, x.house(token) >= 0);
        }
        calls += 4 * 10 + POOLS * 2 + 10 * 3;
    }

    // ---- "never with who calls"

    /** Each of these pairs of calls undoes itself, so all that may be left of it is a loss. */
    private void goThereAndBack(int seed) {
        begin();
        for (int i = 0; i < STEPS / 2; i++) {
            step(random.nextInt(KINDS));
        }
        String place = "seed " + seed + ", there and back: ";
        for (int pool = 0; pool < POOLS; pool++) {
            for (int player = 0; player < 3; player++) {
                int side = random.nextInt(2);
                long i = amount();
                long o = x.swap(player, pool, side, i);
                if (o > 0) {
                    CHECKS.holds(place + "swap() gains nothing", x.swap(player, pool, 1 - side, o) <= i);
                }
                joinsAndLeaves(place, player, pool);
            }
        }
        for (int token = 0; token < 4; token++) {
            long amount = amount();
            long parts = x.lend(token % 3, token, amount);
            if (parts > 0) {
                CHECKS.holds(place + "lend() gains nothing", x.redeem(token % 3, token, parts) <= amount);
            }
        }
    }

    private void joinsAndLeaves(String place, int player, int pool) {
        long one = x.balance(player, one(pool));
        long two = x.balance(player, two(pool));
        long shares = x.join(player, pool, amount(), amount());
        if (shares > 0) {
            x.leave(player, pool, shares);
            CHECKS.holds(place + "join() gains nothing",
                x.balance(player, one(pool)) <= one && x.balance(player, two(pool)) <= two);
        }
    }

    // ---- The calls of a run

    private static int one(int pool) {
        return pool;
    }

    private static int two(int pool) {
        return (pool + 1) % 4;
    }

    private long amount() {
        long most = Math.max(1, random.nextBoolean() ? wealth / 20 : wealth / 1000);
        return 1 + (long) (random.nextDouble() * most);
    }

    private void begin() {
        for (int token = 0; token < 4; token++) {
            for (int player = 0; player < 3; player++) {
                x.mint(player, token, wealth * 2);
            }
        }
        for (int pool = 0; pool < POOLS; pool++) {
            x.pool(one(pool), two(pool), isSum(pool) ? 1 : 0, random.nextInt(3) == 0 ? 0 : random.nextInt(1001));
            x.join(random.nextInt(3), pool, amount() + wealth / 5, amount() + wealth / 5);
        }
        for (int token = 0; token < 4; token++) {
            x.lend(random.nextInt(3), token, amount() + wealth / 4);
            x.rate(token, random.nextInt(1000001));
        }
        calls += 12 + 2 * POOLS + 8;
    }

    private long step(int kind) {
        calls++;
        int player = random.nextInt(3);
        int pool = random.nextInt(POOLS);
        int token = random.nextInt(4);
        latest = NAMES[kind] + " by PLAYER " + player + ", POOL " + pool + ", TOKEN " + token;
        switch (kind) {
            case 0:
                return x.mint(player, token, amount());
            case 1:
                return x.join(player, pool, amount() * 3, amount() * 3);
            case 2:
                calls++;
                return x.leave(player, pool, some(x.of(pool, 9 + player)));
            case 3:
                return x.swap(player, pool, random.nextInt(2), amount() * 5);
            case 4:
                return flash(player, pool);
            case 5:
                return x.tick(random.nextInt(1001));
            case 6:
                return batch(token, (token + 1 + random.nextInt(3)) % 4);
            default:
                return stepOnward(kind, player, pool, token);
        }
    }

    private long stepOnward(int kind, int player, int pool, int token) {
        switch (kind) {
            case 7:
                return order(player);
            case 8:
                java.util.Arrays.fill(ordered, 0);
                return x.clear();
            case 9:
                return x.rate(token, random.nextInt(1000001));
            case 10:
                return x.lend(player, token, amount());
            case 11:
                calls++;
                return x.redeem(player, token, some(x.vault(token, 5 + player)));
            case 12:
                long cover = amount();
                // Near to the most that may be taken, so that some become UNCOVERED within the run.
                return x.loan(player, pool, random.nextInt(2), cover, cover * (40 + random.nextInt(40)) / 100 + 1);
            case 13:
                return x.pay(player, random.nextInt(3), amount());
            default:
                return x.close(player, random.nextInt(3));
        }
    }

    private long some(long held) {
        return random.nextInt(4) == 0 ? held : Math.max(1, (long) (held * random.nextDouble()));
    }

    private long flash(int player, int pool) {
        long t = amount();
        long u = random.nextInt(3) == 0 ? 0 : amount();
        boolean isEnough = random.nextBoolean();
        return x.flash(player, pool, t, u, isEnough ? t + t / 9 + 1 : amount(), isEnough ? u + u / 9 + 1 : amount());
    }

    private long batch(int a, int b) {
        long answer = x.batch(a, b);
        if (answer == 1) {
            tokenA = a;
            tokenB = b;
        }
        return answer;
    }

    private long order(int player) {
        long q = Math.min(10000000000L, amount());
        long l = 900 + random.nextInt(200);
        boolean buys = random.nextBoolean();
        long answer = x.order(player, buys ? 1 : 0, q, l);
        if (answer >= 0) {
            ordered[buys ? tokenB : tokenA] += buys ? (q * l + 999) / 1000 : q;
        }
        return answer;
    }
}
