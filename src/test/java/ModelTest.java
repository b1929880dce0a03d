import java.math.BigInteger;
import java.util.Random;

/** Runs of at most 512 calls, the same ones each time, on ExactCurves and on CurvesModel. */
public final class ModelTest {
    private static final int RUNS = 2000, CALLS = 512, CALLS_OF_A_LOOK = 60;
    // Kind k of call is the one of promise k + 1: 1 is mint, 27 is count.
    private static final int KINDS = 28;
    private static final long MOST = 100000000000000L;
    private static final long[] EDGES = {
        0, -1, 1, 2, 3, 10, 999, 1000, 1001, 10000, 1000000, 1000001, 10000000000L, 10000000001L, MOST - 1, MOST,
        MOST + 1, 1000000000000000000L, Long.MAX_VALUE, Long.MAX_VALUE - 1, Long.MIN_VALUE,
    };
    private static final int[] WRONG = {-1, -2, 4, 6, 7, 8, 10, 11, 15, 42, 1001, Integer.MAX_VALUE, Integer.MIN_VALUE};

    private static final Checks CHECKS = new Checks();
    private static final long[] DONE = new long[KINDS];
    private static final long[] SEEN = new long[6];

    private final Random random;
    private final ExactCurves real = new ExactCurves();
    private final CurvesModel model = new CurvesModel();
    private final long[] wealth = new long[4];
    private final int steadiness;
    private final StringBuilder told = new StringBuilder();
    private int asked;

    private ModelTest(int seed) {
        random = new Random(seed);
        steadiness = 5 + random.nextInt(200);
        for (int token = 0; token < 4; token++) {
            wealth[token] = BigInteger.TEN.pow(random.nextInt(15)).longValueExact();
        }
        int manner = random.nextInt(6);
        if (manner < 2) {
            java.util.Arrays.fill(wealth, wealth[0]);
        } else if (manner == 2) {
            // Prices that are far from 1: TALLIES run over, VALUES come to their most.
            wealth[random.nextInt(4)] = MOST;
            wealth[random.nextInt(4)] = 4 + random.nextInt(20);
        }
    }

    public static void main(String[] args) {
        for (int seed = 0; seed < RUNS && !CHECKS.hasWrong(); seed++) {
            new ModelTest(seed).run(seed);
        }
        for (int kind = 1; kind < KINDS; kind++) {
            CHECKS.holds("the runs did call " + kind + " well, not " + DONE[kind] + " times", DONE[kind] > 200);
        }
        String[] sights = {"TALLY ran over", "VALUE at its most", "INDEX at its most", "a mean of a great TALLY",
            "a SIDE of a SUM was empty", "part of a COVER went back"};
        for (int i = 0; i < sights.length; i++) {
            CHECKS.holds("the runs saw: " + sights[i], SEEN[i] > 10);
        }
        CHECKS.end();
    }

    private void run(int seed) {
        begin();
        while (asked < CALLS - 2 * CALLS_OF_A_LOOK && !CHECKS.hasWrong()) {
            step();
        }
        look();
        CHECKS.holds("the run keeps to its calls, not " + asked, asked <= CALLS);
        if (CHECKS.hasWrong()) {
            System.out.println("seed " + seed + ":\n" + told);
        }
    }

    /** Few runs would come far without amounts, POOLS and VAULTS. */
    private void begin() {
        for (int token = 0; token < 4; token++) {
            for (int player = 0; player < 4; player++) {
                long amount = Math.max(1, wealth[token] / 4 - (random.nextBoolean() ? 0 : random.nextInt(7)));
                ask(1, player, token, amount);
            }
        }
        int pools = 1 + random.nextInt(6);
        for (int i = 0; i < pools; i++) {
            int one = random.nextInt(4);
            int two = (one + 1 + random.nextInt(3)) % 4;
            ask(5, one, two, random.nextInt(2), fee());
            int player = random.nextInt(4);
            ask(7, player, i, amount(held(player, one) / pools), amount(held(player, two) / pools));
        }
        ask(20, random.nextInt(4), random.nextInt(4), amount(wealth[2] / 4));
        ask(19, random.nextInt(4), 1000000);
    }

    private long fee() {
        return random.nextInt(3) == 0 ? 0 : random.nextInt(1001);
    }

    private boolean isWrong() {
        return random.nextInt(steadiness) == 0;
    }

    private long small(int bound) {
        return isWrong() ? WRONG[random.nextInt(WRONG.length)] : random.nextInt(bound);
    }

    private long player() {
        return small(6);
    }

    private long token() {
        return small(4);
    }

    private long pool() {
        return small(Math.max(1, model.pools.size()));
    }

    /** Some amount up to one that is told, often just it or very near to it. */
    private long amount(long most) {
        if (isWrong()) {
            return EDGES[random.nextInt(EDGES.length)];
        }
        if (most < 1) {
            return 1;
        }
        switch (random.nextInt(6)) {
            case 0:
                return most;
            case 1:
                return Math.max(1, most + random.nextInt(3) - 1);
            case 2:
                return 1 + random.nextInt(20);
            case 3:
                return Math.max(1, most / (1 + random.nextInt(1000)));
            default:
                return 1 + (long) (random.nextDouble() * most);
        }
    }

    private long held(long player, long token) {
        long held = model.balance((int) player, (int) token);
        return Math.max(0, held);
    }

    /** An open LOAN, if there is one: most numbers would be BAD. */
    private long openLoan() {
        int first = random.nextInt(10);
        for (int i = 0; i < 10; i++) {
            int number = (first + i) % 10;
            if (model.loans[number] != null && !isWrong()) {
                return number;
            }
        }
        return small(10);
    }

    /** Whoever has most of something, if that is anyone. */
    private long richest(long otherwise, java.util.function.IntFunction<BigInteger> held) {
        if (random.nextInt(4) == 0) {
            return otherwise;
        }
        int best = 0;
        for (int player = 1; player < 6; player++) {
            best = held.apply(player).compareTo(held.apply(best)) > 0 ? player : best;
        }
        return best;
    }

    private void step() {
        int kind = random.nextInt(46);
        if (kind >= 43) {
            kind = 26;
        } else if (kind >= 41) {
            kind = 25;
        } else if (kind >= 38) {
            kind = 7;
        } else if (kind >= 36) {
            kind = 16;
        } else if (kind >= 34) {
            kind = 9;
        } else if (kind >= 31) {
            kind = 23;
        } else if (kind >= 28) {
            kind = 12;
        }
        if (kind == 17 && random.nextInt(5) != 0) {
            kind = 16;
        }
        long player = player();
        switch (kind) {
            case 0:
                if (random.nextInt(4) == 0) {
                    look();
                }
                break;
            case 1:
                ask(1, player, token(), amount(random.nextInt(20) == 0 ? MOST : Math.max(1, wealth[0] / 100)));
                break;
            case 2:
                ask(2, player, token());
                break;
            case 3:
                ask(3, token());
                break;
            case 4:
                ask(4, token());
                break;
            case 5:
                ask(5, token(), token(), small(2), isWrong() ? small(2000) : fee());
                break;
            case 6:
                ask(6, pool(), small(15));
                break;
            default:
                stepOnward(kind, player);
        }
    }

    private void stepOnward(int kind, long player) {
        long pool = pool();
        boolean isPool = pool >= 0 && pool < model.pools.size();
        CurvesModel.ModelPool p = isPool ? model.pools.get((int) pool) : new CurvesModel.ModelPool();
        long side = small(2);
        int s = (int) (side & 1);
        long token = token();
        switch (kind) {
            case 7:
                long joins = richest(player, i -> model.balances[i][p.tokens[0]].min(model.balances[i][p.tokens[1]]));
                ask(7, joins, pool, amount(held(joins, p.tokens[0])), amount(held(joins, p.tokens[1])));
                break;
            case 8:
                long leaves = richest(player, i -> p.sharesOf[i]);
                long shares = Math.max(0, model.of((int) pool, (int) (9 + (leaves & 15))));
                ask(8, leaves, pool, amount(random.nextInt(4) == 0 ? 3 : shares));
                break;
            case 9:
                long swaps = richest(player, i -> model.balances[i][p.tokens[s]]);
                long most = held(swaps, p.tokens[s]);
                long near = p.reserves[random.nextBoolean() ? s : 1 - s].longValue();
                ask(9, swaps, pool, side, amount(random.nextBoolean() ? most : Math.min(most, near)));
                break;
            case 10:
                ask(10, pool, side, amount(p.reserves[s].longValue()));
                break;
            case 11:
                flash(player, pool, p);
                break;
            case 12:
                ask(12, random.nextInt(3) == 0 ? 1000 : isWrong() ? small(2000) : random.nextInt(50));
                break;
            case 13:
                ask(13, small(8), pool);
                break;
            case 14:
                ask(14, small(8));
                break;
            case 15:
                ask(15, token, token());
                break;
            case 16:
                order(player);
                break;
            case 17:
                ask(17);
                break;
            case 18:
                ask(18, small(random.nextBoolean() ? 43 : 3));
                break;
            case 19:
                ask(19, token, random.nextInt(3) == 0 ? 1000000 : amount(1000000));
                break;
            case 20:
                ask(20, player, token, amount(held(player, token)));
                break;
            case 21:
                redeem(player, token);
                break;
            case 22:
                ask(22, token, small(11));
                break;
            case 23:
                loan(player, pool, p, side);
                break;
            case 24:
                ask(24, small(10), small(8));
                break;
            case 25:
                pay(player);
                break;
            case 26:
                close(player);
                break;
            default:
                ask(27, small(4));
        }
    }

    /** Often brings just what is asked for, or one less. */
    private void flash(long player, long pool, CurvesModel.ModelPool p) {
        long t = random.nextInt(3) == 0 ? 0 : amount(p.reserves[0].longValue());
        long u = random.nextInt(3) == 0 ? 0 : amount(p.reserves[1].longValue());
        long a = brought(t, p.fee);
        long b = brought(u, p.fee);
        if (random.nextInt(4) == 0) {
            a = random.nextInt(2) == 0 ? 0 : amount(held(player, p.tokens[0]));
            b = random.nextInt(2) == 0 ? 0 : amount(held(player, p.tokens[1]));
        }
        ask(11, player, pool, t, u, a, b);
    }

    private long brought(long taken, int fee) {
        if (taken < 0 || taken > MOST) {
            return taken;
        }
        return Math.max(0, -Math.floorDiv(-taken * 10000, 10000 - fee) - random.nextInt(2));
    }

    private void order(long player) {
        long buy = small(2);
        int mostLimit = random.nextInt(9) == 0 ? 1000000 : 1 + steadiness * 10;
        long limit = isWrong() ? amount(1000000) : 1 + random.nextInt(mostLimit);
        long most = held(player, buy == 1 ? model.batchB : model.batchA);
        ask(16, player, buy, Math.min(10000000001L, amount(most / (1 + random.nextInt(10)))), limit);
    }

    /** Often takes just as much as the COVER allows, or one more. */
    private void loan(long by, long pool, CurvesModel.ModelPool p, long side) {
        int s = (int) (side & 1);
        long player = richest(by, i -> model.balances[i][p.tokens[s]]);
        int borrowed = p.tokens[1 - s];
        if (model.vaults[borrowed].has.signum() == 0) {
            long lender = richest(by, i -> model.balances[i][borrowed]);
            ask(20, lender, borrowed, amount(held(lender, borrowed) / 2));
        }
        long c = amount(held(player, p.tokens[s]) / (1 + random.nextInt(4)));
        long d = amount(model.vaults[borrowed].has.longValue());
        if (random.nextInt(3) > 0 && p.reserves[s].signum() > 0) {
            BigInteger value = BigInteger.valueOf(c).multiply(p.reserves[1 - s]).divide(p.reserves[s]);
            value = value.min(BigInteger.TEN.pow(15));
            d = Math.max(1, value.longValue() * 60 / 100 + random.nextInt(2));
        }
        ask(23, player, pool, side, c, d);
    }

    private void redeem(long player, long token) {
        CurvesModel.ModelVault v = model.vaults[(int) (token & 3)];
        long redeems = richest(player, i -> v.partsOf[i]);
        ask(21, redeems, token, amount(Math.max(0, model.vault((int) token, (int) (5 + (redeems & 15))))));
    }

    private void pay(long player) {
        long loan = openLoan();
        long pays = richestFor(loan, player);
        ask(25, pays, loan, amount(Math.max(0, model.ofLoan((int) loan, 5))));
    }

    private long richestFor(long loan, long otherwise) {
        if (loan < 0 || loan > 9 || model.loans[(int) loan] == null) {
            return otherwise;
        }
        CurvesModel.ModelLoan l = model.loans[(int) loan];
        int token = model.pools.get(l.pool).tokens[1 - l.side];
        return richest(otherwise, i -> model.balances[i][token]);
    }

    private void close(long by) {
        long loan = openLoan();
        long player = richestFor(loan, by);
        long value = model.ofLoan((int) loan, 6);
        long cover = model.ofLoan((int) loan, 3);
        SEEN[1] += value == 1000000000000000000L ? 1 : 0;
        ask(24, loan, 6);
        ask(24, loan, 7);
        long gets = ask(26, player, loan);
        SEEN[5] += gets > 0 && gets < cover ? 1 : 0;
    }

    /** What most of the state shows itself by; a few such looks go into a run. */
    private void look() {
        for (int i = 0; i < 4; i++) {
            ask(3, i);
            ask(4, i);
            ask(27, i);
            SEEN[2] += ask(22, i, 3) == 1000000000000L ? 1 : 0;
            ask(22, i, 1);
        }
        for (int i = 0; i < model.pools.size(); i++) {
            CurvesModel.ModelPool p = model.pools.get(i);
            ask(6, i, 0);
            ask(6, i, 1);
            ask(6, i, 2);
            long tally = ask(6, i, 3);
            BigInteger price = p.reserves[0].signum() == 0 ? BigInteger.ZERO
                : BigInteger.valueOf(1000).multiply(p.reserves[1]).divide(p.reserves[0]);
            boolean isGreat = price.multiply(BigInteger.valueOf(1000)).bitLength() > 64;
            SEEN[0] += isGreat && p.age >= 1000 ? 1 : 0;
            SEEN[3] += tally < 0 ? 1 : 0;
            SEEN[4] += p.shares.signum() > 0 && p.reserves[0].min(p.reserves[1]).signum() == 0 ? 1 : 0;
        }
        ask(14, random.nextInt(8));
        ask(2, random.nextInt(6), random.nextInt(4));
    }

    private long ask(int kind, long... a) {
        int[] n = new int[a.length];
        for (int i = 0; i < a.length; i++) {
            n[i] = (int) a[i];
        }
        asked++;
        long got = askReal(kind, a, n);
        long want = askModel(kind, a, n);
        if (told.length() < 200000) {
            told.append(kind).append(java.util.Arrays.toString(a)).append(" -> ").append(want).append('\n');
        }
        CHECKS.due("call " + kind + java.util.Arrays.toString(a), got, want);
        DONE[kind] += want >= 0 ? 1 : 0;
        return want;
    }

    private long askReal(int kind, long[] a, int[] n) {
        switch (kind) {
            case 1: return real.mint(n[0], n[1], a[2]);
            case 2: return real.balance(n[0], n[1]);
            case 3: return real.total(n[0]);
            case 4: return real.house(n[0]);
            case 5: return real.pool(n[0], n[1], n[2], n[3]);
            case 6: return real.of(n[0], n[1]);
            case 7: return real.join(n[0], n[1], a[2], a[3]);
            case 8: return real.leave(n[0], n[1], a[2]);
            case 9: return real.swap(n[0], n[1], n[2], a[3]);
            case 10: return real.quote(n[0], n[1], a[2]);
            case 11: return real.flash(n[0], n[1], a[2], a[3], a[4], a[5]);
            case 12: return real.tick(n[0]);
            case 13: return real.mark(n[0], n[1]);
            case 14: return real.mean(n[0]);
            case 15: return real.batch(n[0], n[1]);
            case 16: return real.order(n[0], n[1], a[2], a[3]);
            case 17: return real.clear();
            case 18: return real.dealt(n[0]);
            case 19: return real.rate(n[0], a[1]);
            case 20: return real.lend(n[0], n[1], a[2]);
            case 21: return real.redeem(n[0], n[1], a[2]);
            case 22: return real.vault(n[0], n[1]);
            case 23: return real.loan(n[0], n[1], n[2], a[3], a[4]);
            case 24: return real.ofLoan(n[0], n[1]);
            case 25: return real.pay(n[0], n[1], a[2]);
            case 26: return real.close(n[0], n[1]);
            default: return real.count(n[0]);
        }
    }

    private long askModel(int kind, long[] a, int[] n) {
        switch (kind) {
            case 1: return model.mint(n[0], n[1], a[2]);
            case 2: return model.balance(n[0], n[1]);
            case 3: return model.total(n[0]);
            case 4: return model.house(n[0]);
            case 5: return model.pool(n[0], n[1], n[2], n[3]);
            case 6: return model.of(n[0], n[1]);
            case 7: return model.join(n[0], n[1], a[2], a[3]);
            case 8: return model.leave(n[0], n[1], a[2]);
            case 9: return model.swap(n[0], n[1], n[2], a[3]);
            case 10: return model.quote(n[0], n[1], a[2]);
            case 11: return model.flash(n[0], n[1], a[2], a[3], a[4], a[5]);
            case 12: return model.tick(n[0]);
            case 13: return model.mark(n[0], n[1]);
            case 14: return model.mean(n[0]);
            case 15: return model.batch(n[0], n[1]);
            case 16: return model.order(n[0], n[1], a[2], a[3]);
            case 17: return model.clear();
            case 18: return model.dealt(n[0]);
            case 19: return model.rate(n[0], a[1]);
            case 20: return model.lend(n[0], n[1], a[2]);
            case 21: return model.redeem(n[0], n[1], a[2]);
            case 22: return model.vault(n[0], n[1]);
            case 23: return model.loan(n[0], n[1], n[2], a[3], a[4]);
            case 24: return model.ofLoan(n[0], n[1]);
            case 25: return model.pay(n[0], n[1], a[2]);
            case 26: return model.close(n[0], n[1]);
            default: return model.count(n[0]);
        }
    }
}
