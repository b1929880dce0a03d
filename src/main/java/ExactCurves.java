/**
 * Exchanges by exact numbers: POOLS, MARKS of their prices, a BATCH with one price, VAULTS and LOANS.
 *
 * <p>Whatever is cut off stays where it was: what comes in is rounded up, what goes out is cut off.
 */
public final class ExactCurves {
    public static final int NONE = -1, BAD = -2, REFUSED = -3;

    private static final int TOKENS = 4, PLAYERS = 6, POOLS = 6, MARKS = 8, ORDERS = 40, LOANS = 10;
    private static final int PRODUCT = 0, SUM = 1;
    private static final int MOST_FEE = 1000, MOST_TICKS = 1000;
    private static final long FEE_WHOLE = 10_000L, PRICE_WHOLE = 1000L;
    private static final long MOST_OF_TOKEN = 100_000_000_000_000L;
    private static final long MOST_ORDERED = 10_000_000_000L, MOST_LIMIT = 1_000_000L;
    private static final long INDEX_WHOLE = 1_000_000_000L, MOST_INDEX = 1_000_000_000_000L;
    private static final long MOST_RATE = 1_000_000L;
    private static final long MOST_VALUE = 1_000_000_000_000_000_000L;

    private final Purses purses = new Purses();
    private final Pool[] pools = new Pool[POOLS];
    private final Mark[] marks = new Mark[MARKS];
    private final Batch orders = new Batch();
    private final Vault[] vaults = new Vault[TOKENS];
    private final Loan[] loans = new Loan[LOANS];
    private int poolCount;
    private int clock;

    public ExactCurves() {
        for (int i = 0; i < POOLS; i++) {
            pools[i] = new Pool();
        }
        for (int i = 0; i < MARKS; i++) {
            marks[i] = new Mark();
        }
        for (int i = 0; i < TOKENS; i++) {
            vaults[i] = new Vault();
        }
        for (int i = 0; i < LOANS; i++) {
            loans[i] = new Loan();
        }
    }

    // ---- TOKENS and BALANCES

    public long mint(int player, int token, long amount) {
        if (!isPlayer(player) || !isToken(token) || amount < 1 || amount > MOST_OF_TOKEN) {
            return BAD;
        }
        if (amount > MOST_OF_TOKEN - purses.minted[token]) {
            return REFUSED;
        }
        purses.minted[token] += amount;
        purses.give(player, token, amount);
        return purses.held(player, token);
    }

    public long balance(int player, int token) {
        return isPlayer(player) && isToken(token) ? purses.held(player, token) : BAD;
    }

    public long total(int token) {
        // Every other call only moves amounts, so what was minted is what there is.
        return isToken(token) ? purses.minted[token] : BAD;
    }

    public long house(int token) {
        return isToken(token) ? purses.kept[token] : BAD;
    }

    // ---- POOLS

    public int pool(int one, int two, int kind, int fee) {
        if (!isToken(one) || !isToken(two) || one == two || poolCount >= POOLS) {
            return BAD;
        }
        if ((kind != PRODUCT && kind != SUM) || fee < 0 || fee > MOST_FEE) {
            return BAD;
        }
        Pool made = pools[poolCount];
        made.one = one;
        made.two = two;
        made.kind = kind;
        made.fee = fee;
        poolCount++;
        return poolCount - 1;
    }

    public long of(int pool, int what) {
        Pool p = poolAt(pool);
        return p == null ? BAD : p.told(what);
    }

    public long join(int player, int pool, long u, long v) {
        Pool p = poolAt(pool);
        if (!isPlayer(player) || p == null || u < 1 || v < 1) {
            return BAD;
        }
        if (purses.held(player, p.one) < u || purses.held(player, p.two) < v) {
            return REFUSED;
        }
        long n = p.sharesFor(u, v);
        if (n == 0) {
            return REFUSED;
        }
        boolean first = p.shares == 0;
        long costOne = first ? u : p.costOf(n, 0);
        long costTwo = first ? v : p.costOf(n, 1);
        bringIn(player, p, 0, costOne);
        bringIn(player, p, 1, costTwo);
        p.addShares(player, n);
        return n;
    }

    public long leave(int player, int pool, long n) {
        Pool p = poolAt(pool);
        if (!isPlayer(player) || p == null || n < 1) {
            return BAD;
        }
        if (p.sharesOf[player] < n) {
            return REFUSED;
        }
        long one = p.payOf(n, 0);
        long two = p.payOf(n, 1);
        takeOut(player, p, 0, one);
        takeOut(player, p, 1, two);
        p.addShares(player, -n);
        return one;
    }

    public long swap(int player, int pool, int side, long i) {
        Pool p = poolAt(pool);
        if (!isPlayer(player) || p == null || !isSide(side) || i < 1) {
            return BAD;
        }
        if (purses.held(player, p.tokenAt(side)) < i) {
            return REFUSED;
        }
        long o = p.outputOf(side, i);
        if (o == 0) {
            return REFUSED;
        }
        bringIn(player, p, side, i);
        takeOut(player, p, 1 - side, o);
        return o;
    }

    public long quote(int pool, int side, long i) {
        Pool p = poolAt(pool);
        if (p == null || !isSide(side) || i < 1 || i > MOST_OF_TOKEN) {
            return BAD;
        }
        long o = p.outputOf(side, i);
        return o == 0 ? REFUSED : o;
    }

    public int flash(int player, int pool, long t, long u, long a, long b) {
        Pool p = poolAt(pool);
        if (!isPlayer(player) || p == null || t < 0 || u < 0 || a < 0 || b < 0) {
            return BAD;
        }
        if ((t == 0 && u == 0) || t > p.x || u > p.y) {
            return BAD;
        }
        if (purses.held(player, p.one) + t < a || purses.held(player, p.two) + u < b) {
            return REFUSED;
        }
        if (!p.mayBecome(p.x - t + a, p.y - u + b, a, b)) {
            return REFUSED;
        }
        takeOut(player, p, 0, t);
        takeOut(player, p, 1, u);
        bringIn(player, p, 0, a);
        bringIn(player, p, 1, b);
        return 1;
    }

    // ---- THE CLOCK and means

    public int tick(int n) {
        if (n < 0 || n > MOST_TICKS) {
            return BAD;
        }
        for (int i = 0; i < poolCount; i++) {
            pools[i].grow(n);
        }
        for (int i = 0; i < TOKENS; i++) {
            vaults[i].grow(n);
        }
        clock += n;
        return clock;
    }

    public int mark(int k, int pool) {
        Pool p = poolAt(pool);
        if (k < 0 || k >= MARKS || p == null) {
            return BAD;
        }
        Mark m = marks[k];
        m.isSet = true;
        m.poolNumber = pool;
        m.tally = p.tally;
        m.age = p.age;
        return 1;
    }

    public long mean(int k) {
        if (k < 0 || k >= MARKS || !marks[k].isSet) {
            return BAD;
        }
        Mark m = marks[k];
        Pool p = poolAt(m.poolNumber);
        if (p == null) {
            return BAD;
        }
        long ticks = p.age - m.age;
        return ticks <= 0 ? NONE : Exact.over(0, p.tally - m.tally, ticks);
    }

    // ---- BATCHES

    public int batch(int a, int b) {
        if (!isToken(a) || !isToken(b) || a == b) {
            return BAD;
        }
        if (orders.size > 0) {
            return REFUSED;
        }
        orders.tokenA = a;
        orders.tokenB = b;
        return 1;
    }

    public int order(int player, int buy, long q, long l) {
        if (!isPlayer(player) || (buy != 0 && buy != 1)) {
            return BAD;
        }
        if (q < 1 || q > MOST_ORDERED || l < 1 || l > MOST_LIMIT) {
            return BAD;
        }
        int token = buy == 1 ? orders.tokenB : orders.tokenA;
        long given = buy == 1 ? Batch.priceUp(q, l) : q;
        if (orders.size >= ORDERS || purses.held(player, token) < given) {
            return REFUSED;
        }
        purses.take(player, token, given);
        return orders.put(player, buy == 1, q, l);
    }

    public long clear() {
        long price = orders.bestPrice();
        orders.dealAt(price);
        for (int i = 0; i < orders.size; i++) {
            if (orders.buys[i]) {
                settleBuyer(i, price);
            } else {
                settleSeller(i, price);
            }
        }
        orders.size = 0;
        return price;
    }

    public long dealt(int what) {
        if (what == 0) {
            return orders.latestDealt;
        }
        if (what == 1) {
            return orders.latestSize;
        }
        return what >= 2 && what - 2 < orders.latestSize ? orders.parts[what - 2] : BAD;
    }

    // ---- VAULTS

    public long rate(int token, long v) {
        if (!isToken(token) || v < 0 || v > MOST_RATE) {
            return BAD;
        }
        long before = vaults[token].rate;
        vaults[token].rate = v;
        return before;
    }

    public long lend(int player, int token, long amount) {
        if (!isPlayer(player) || !isToken(token) || amount < 1) {
            return BAD;
        }
        if (purses.held(player, token) < amount) {
            return REFUSED;
        }
        Vault v = vaults[token];
        long n = v.parts == 0 ? amount : Exact.timesOver(amount, v.parts, worthOf(token));
        if (n == 0) {
            return REFUSED;
        }
        purses.take(player, token, amount);
        v.has += amount;
        v.addParts(player, n);
        return n;
    }

    public long redeem(int player, int token, long n) {
        if (!isPlayer(player) || !isToken(token) || n < 1) {
            return BAD;
        }
        Vault v = vaults[token];
        if (v.partsOf[player] < n) {
            return REFUSED;
        }
        long amount = Exact.timesOver(n, worthOf(token), v.parts);
        if (amount == 0 || amount > v.has) {
            return REFUSED;
        }
        v.addParts(player, -n);
        v.has -= amount;
        purses.give(player, token, amount);
        return amount;
    }

    public long vault(int token, int what) {
        if (!isToken(token)) {
            return BAD;
        }
        return what == 1 ? worthOf(token) : vaults[token].told(what);
    }

    // ---- LOANS

    public int loan(int player, int pool, int side, long c, long d) {
        Pool p = poolAt(pool);
        if (!isPlayer(player) || p == null || !isSide(side) || c < 1 || d < 1) {
            return BAD;
        }
        int number = freeLoan();
        Vault v = vaults[p.tokenAt(1 - side)];
        if (number == NONE || purses.held(player, p.tokenAt(side)) < c || v.has < d) {
            return REFUSED;
        }
        // 100 d against 60 VALUE, both by 20, so that neither leaves 64 bits.
        if (5 * d > 3 * p.valueOf(side, c)) {
            return REFUSED;
        }
        purses.take(player, p.tokenAt(side), c);
        v.has -= d;
        purses.give(player, p.tokenAt(1 - side), d);
        loans[number].begin(player, pool, side, c, v.unitsOf(d));
        return number;
    }

    public long ofLoan(int loan, int what) {
        Loan l = loanAt(loan);
        if (l == null) {
            return BAD;
        }
        switch (what) {
            case 0:
                return l.player;
            case 1:
                return l.poolNumber;
            case 2:
                return l.side;
            case 3:
                return l.cover;
            case 4:
                return l.units;
            case 5:
                return debtOf(l);
            case 6:
                return coverValue(l);
            case 7:
                return isUncovered(l) ? 1 : 0;
            default:
                return BAD;
        }
    }

    public long pay(int player, int loan, long m) {
        Loan l = loanAt(loan);
        if (!isPlayer(player) || l == null || m < 1) {
            return BAD;
        }
        long debt = debtOf(l);
        long taken = Math.min(m, debt);
        int token = debtToken(l);
        if (purses.held(player, token) < taken) {
            return REFUSED;
        }
        purses.take(player, token, taken);
        vaults[token].has += taken;
        l.units = vaults[token].unitsOf(debt - taken);
        if (taken == debt) {
            purses.give(l.player, coverToken(l), l.cover);
            l.isOpen = false;
        }
        return taken;
    }

    public long close(int player, int loan) {
        Loan l = loanAt(loan);
        if (!isPlayer(player) || l == null) {
            return BAD;
        }
        long debt = debtOf(l);
        int token = debtToken(l);
        if (!isUncovered(l) || purses.held(player, token) < debt) {
            return REFUSED;
        }
        long wanted = Exact.timesOverUp(debt, 105, 100);
        long gets = Math.min(l.cover, pools[l.poolNumber].leastOfValue(l.side, wanted));
        purses.take(player, token, debt);
        vaults[token].has += debt;
        purses.give(player, coverToken(l), gets);
        purses.give(l.player, coverToken(l), l.cover - gets);
        l.isOpen = false;
        return gets;
    }

    public int count(int what) {
        switch (what) {
            case 0:
                return poolCount;
            case 1:
                return orders.size;
            case 2:
                return openLoans();
            case 3:
                return clock;
            default:
                return BAD;
        }
    }

    // ---- What the calls share

    private static boolean isPlayer(int player) {
        return player >= 0 && player < PLAYERS;
    }

    private static boolean isToken(int token) {
        return token >= 0 && token < TOKENS;
    }

    private static boolean isSide(int side) {
        return side == 0 || side == 1;
    }

    private Pool poolAt(int number) {
        return number >= 0 && number < poolCount ? pools[number] : null;
    }

    private void bringIn(int player, Pool p, int side, long amount) {
        purses.take(player, p.tokenAt(side), amount);
        p.addReserve(side, amount);
    }

    private void takeOut(int player, Pool p, int side, long amount) {
        p.addReserve(side, -amount);
        purses.give(player, p.tokenAt(side), amount);
    }

    private void settleBuyer(int i, long price) {
        long part = orders.parts[i];
        long paid = Batch.priceUp(part, price);
        long given = Batch.priceUp(orders.amounts[i], orders.limits[i]);
        purses.give(orders.players[i], orders.tokenA, part);
        purses.give(orders.players[i], orders.tokenB, given - paid);
        purses.kept[orders.tokenB] += paid;
    }

    private void settleSeller(int i, long price) {
        long part = orders.parts[i];
        long got = part * price / PRICE_WHOLE;
        purses.give(orders.players[i], orders.tokenA, orders.amounts[i] - part);
        purses.give(orders.players[i], orders.tokenB, got);
        purses.kept[orders.tokenB] -= got;
    }

    private long worthOf(int token) {
        long worth = vaults[token].has;
        for (int i = 0; i < LOANS; i++) {
            if (loans[i].isOpen && debtToken(loans[i]) == token) {
                worth += debtOf(loans[i]);
            }
        }
        return worth;
    }

    private Loan loanAt(int number) {
        return number >= 0 && number < LOANS && loans[number].isOpen ? loans[number] : null;
    }

    private int freeLoan() {
        for (int i = 0; i < LOANS; i++) {
            if (!loans[i].isOpen) {
                return i;
            }
        }
        return NONE;
    }

    private int openLoans() {
        int open = 0;
        for (int i = 0; i < LOANS; i++) {
            if (loans[i].isOpen) {
                open++;
            }
        }
        return open;
    }

    private int coverToken(Loan l) {
        return pools[l.poolNumber].tokenAt(l.side);
    }

    private int debtToken(Loan l) {
        return pools[l.poolNumber].tokenAt(1 - l.side);
    }

    private long debtOf(Loan l) {
        return vaults[debtToken(l)].debtOf(l.units);
    }

    private long coverValue(Loan l) {
        return pools[l.poolNumber].valueOf(l.side, l.cover);
    }

    private boolean isUncovered(Loan l) {
        // 100 DEBT against 80 VALUE, both by 20, so that neither leaves 64 bits.
        return 5 * debtOf(l) > 4 * coverValue(l);
    }

    /** What PLAYERS and the HOUSE have; its callers have looked at player and token. */
    private static final class Purses {
        final long[] amounts = new long[PLAYERS * TOKENS];
        final long[] minted = new long[TOKENS];
        final long[] kept = new long[TOKENS];

        long held(int player, int token) {
            return amounts[player * TOKENS + token];
        }

        void give(int player, int token, long amount) {
            amounts[player * TOKENS + token] += amount;
        }

        void take(int player, int token, long amount) {
            amounts[player * TOKENS + token] -= amount;
        }
    }

    /** A POOL: x and y are the RESERVES of its SIDES. */
    private static final class Pool {
        final long[] sharesOf = new long[PLAYERS];
        int one, two, kind, fee;
        long x, y, shares, tally, age;

        int tokenAt(int side) {
            return side == 0 ? one : two;
        }

        long reserveAt(int side) {
            return side == 0 ? x : y;
        }

        void addReserve(int side, long amount) {
            if (side == 0) {
                x += amount;
            } else {
                y += amount;
            }
        }

        void addShares(int player, long n) {
            sharesOf[player] += n;
            shares += n;
        }

        long told(int what) {
            switch (what) {
                case 0:
                    return x;
                case 1:
                    return y;
                case 2:
                    return shares;
                case 3:
                    return tally;
                case 4:
                    return age;
                case 5:
                    return kind;
                case 6:
                    return fee;
                case 7:
                    return one;
                case 8:
                    return two;
                default:
                    return what >= 9 && what < 9 + PLAYERS ? sharesOf[what - 9] : BAD;
            }
        }

        long sharesFor(long u, long v) {
            if (shares == 0) {
                return kind == SUM ? u + v : Exact.rootOfProduct(u, v);
            }
            return Math.min(sharesBy(u, x), sharesBy(v, y));
        }

        // A SIDE without RESERVE asks for nothing, so it must never be the lesser one.
        private long sharesBy(long amount, long reserve) {
            return reserve == 0 ? Long.MAX_VALUE : Exact.timesOver(amount, shares, reserve);
        }

        long costOf(long n, int side) {
            return Exact.timesOverUp(n, reserveAt(side), shares);
        }

        long payOf(long n, int side) {
            return Exact.timesOver(n, reserveAt(side), shares);
        }

        /** What comes out for i of a SIDE; 0 if the swap is refused. */
        long outputOf(int side, long i) {
            long p = reserveAt(side);
            long q = reserveAt(1 - side);
            long counted = i * (FEE_WHOLE - fee);
            if (kind == SUM) {
                long o = counted / FEE_WHOLE;
                return o > q ? 0 : o;
            }
            return Exact.timesOver(q, counted, FEE_WHOLE * p + counted);
        }

        /** Whether a FLASH that brings a and b may leave these RESERVES. */
        boolean mayBecome(long newX, long newY, long a, long b) {
            long left = FEE_WHOLE * newX - fee * a;
            long right = FEE_WHOLE * newY - fee * b;
            if (newX < 0 || newY < 0) {
                return false;
            }
            if (kind == SUM) {
                return left + right >= FEE_WHOLE * (x + y);
            }
            return left >= 0 && right >= 0
                && Exact.compareProducts(left, right, FEE_WHOLE * x, FEE_WHOLE * y) >= 0;
        }

        void grow(int ticks) {
            if (x > 0 && y > 0) {
                tally += ticks * (PRICE_WHOLE * y / x);
                age += ticks;
            }
        }

        /** VALUE of an amount of a SIDE, in the TOKEN of the other one. */
        long valueOf(int side, long amount) {
            long mine = reserveAt(side);
            if (mine == 0) {
                return 0;
            }
            return Math.min(MOST_VALUE, Exact.timesOver(amount, reserveAt(1 - side), mine));
        }

        /** The least amount of a SIDE with that VALUE; more than there can be if there is none. */
        long leastOfValue(int side, long value) {
            long mine = reserveAt(side);
            long other = reserveAt(1 - side);
            if (mine == 0 || other == 0) {
                return Long.MAX_VALUE;
            }
            return Exact.timesOverUp(value, mine, other);
        }
    }

    /** TALLY and AGE of a POOL as they once were. */
    private static final class Mark {
        boolean isSet;
        int poolNumber;
        long tally, age;
    }

    /** ORDERS that wait, and what the latest clear() dealt of its ORDERS. */
    private static final class Batch {
        final int[] players = new int[ORDERS];
        final boolean[] buys = new boolean[ORDERS];
        final long[] amounts = new long[ORDERS];
        final long[] limits = new long[ORDERS];
        final long[] parts = new long[ORDERS];
        int tokenA = 0, tokenB = 1, size;
        int latestSize;
        long latestDealt;

        static long priceUp(long amount, long price) {
            return (amount * price + PRICE_WHOLE - 1) / PRICE_WHOLE;
        }

        /** Its caller has seen that there is room. */
        int put(int player, boolean buy, long amount, long limit) {
            players[size] = player;
            buys[size] = buy;
            amounts[size] = amount;
            limits[size] = limit;
            size++;
            return size - 1;
        }

        long boughtAt(long price) {
            long sum = 0;
            for (int i = 0; i < size; i++) {
                if (buys[i] && limits[i] >= price) {
                    sum += amounts[i];
                }
            }
            return sum;
        }

        long soldAt(long price) {
            long sum = 0;
            for (int i = 0; i < size; i++) {
                if (!buys[i] && limits[i] <= price) {
                    sum += amounts[i];
                }
            }
            return sum;
        }

        /** 0 if nothing can be dealt. */
        long bestPrice() {
            long best = 0;
            long most = 0;
            long nearest = 0;
            for (int i = 0; i < size; i++) {
                long price = limits[i];
                long bought = boughtAt(price);
                long sold = soldAt(price);
                long least = Math.min(bought, sold);
                long apart = Math.max(bought, sold) - least;
                boolean better = least > most
                    || (least == most && (apart < nearest || (apart == nearest && price < best)));
                if (least > 0 && better) {
                    best = price;
                    most = least;
                    nearest = apart;
                }
            }
            return best;
        }

        void dealAt(long price) {
            long most = price == 0 ? 0 : Math.min(boughtAt(price), soldAt(price));
            for (int i = 0; i < size; i++) {
                // An ORDER beyond the price has at least as much before it as is dealt.
                parts[i] = Math.max(0, Math.min(amounts[i], most - beforeOrder(i)));
            }
            latestDealt = most;
            latestSize = size;
        }

        /** How much of the same SIDE is dealt before ORDER i. */
        long beforeOrder(int i) {
            long sum = 0;
            for (int j = 0; j < size; j++) {
                if (buys[j] == buys[i] && isBefore(j, i)) {
                    sum += amounts[j];
                }
            }
            return sum;
        }

        private boolean isBefore(int j, int i) {
            if (limits[j] == limits[i]) {
                return j < i;
            }
            return buys[i] ? limits[j] > limits[i] : limits[j] < limits[i];
        }
    }

    /** A VAULT of one TOKEN; DEBTS in it are with the LOANS. */
    private static final class Vault {
        final long[] partsOf = new long[PLAYERS];
        long has, parts, rate;
        long index = INDEX_WHOLE;

        long told(int what) {
            switch (what) {
                case 0:
                    return has;
                case 2:
                    return parts;
                case 3:
                    return index;
                case 4:
                    return rate;
                default:
                    return what >= 5 && what < 5 + PLAYERS ? partsOf[what - 5] : BAD;
            }
        }

        void addParts(int player, long n) {
            partsOf[player] += n;
            parts += n;
        }

        void grow(int ticks) {
            for (int i = 0; i < ticks && rate > 0 && index < MOST_INDEX; i++) {
                index = Math.min(MOST_INDEX, index + index * rate / INDEX_WHOLE);
            }
        }

        long debtOf(long units) {
            return Exact.timesOverUp(units, index, INDEX_WHOLE);
        }

        long unitsOf(long debt) {
            return Exact.timesOverUp(debt, INDEX_WHOLE, index);
        }
    }

    /** A LOAN, or the room for one. */
    private static final class Loan {
        boolean isOpen;
        int player, poolNumber, side;
        long cover, units;

        void begin(int byPlayer, int byPool, int coverSide, long amount, long atFirst) {
            isOpen = true;
            player = byPlayer;
            poolNumber = byPool;
            side = coverSide;
            cover = amount;
            units = atFirst;
        }
    }

    /** Products of 128 bits, as two halves of 64 without sign; factors are 0 and more. */
    private static final class Exact {
        private static final long LOW_HALF = 0xFFFFFFFFL;
        // No root here is above 10^14, which is below 2^47.
        private static final long GREATEST_ROOT_BIT = 1L << 46;

        static long highOf(long a, long b) {
            long aHigh = a >>> 32;
            long aLow = a & LOW_HALF;
            long bHigh = b >>> 32;
            long bLow = b & LOW_HALF;
            long middle = aHigh * bLow + (aLow * bLow >>> 32);
            long other = aLow * bHigh + (middle & LOW_HALF);
            return aHigh * bHigh + (middle >>> 32) + (other >>> 32);
        }

        /** Both halves by a divisor, cut off; Long.MAX_VALUE if that is 2^63 - 1 or more. */
        static long over(long high, long low, long divisor) {
            if (divisor <= 0) {
                return 0;
            }
            if (high == 0 && low >= 0) {
                return low / divisor;
            }
            if (high >= divisor) {
                return Long.MAX_VALUE;
            }
            long quotient = 0;
            long rest = high;
            for (int bit = 63; bit >= 0; bit--) {
                rest = (rest << 1) | ((low >>> bit) & 1);
                quotient <<= 1;
                // Below 0 the doubled rest has run over 2^63, so it is above the divisor.
                if (rest < 0 || rest >= divisor) {
                    rest -= divisor;
                    quotient |= 1;
                }
            }
            return quotient < 0 ? Long.MAX_VALUE : quotient;
        }

        static long timesOver(long a, long b, long divisor) {
            return over(highOf(a, b), a * b, divisor);
        }

        static long timesOverUp(long a, long b, long divisor) {
            long quotient = timesOver(a, b, divisor);
            // The rest is below 2^63, so the low half alone tells whether there is one.
            boolean isCutOff = quotient < Long.MAX_VALUE && quotient * divisor != a * b;
            return isCutOff ? quotient + 1 : quotient;
        }

        /** Below 0, 0 or above 0, as a b is to c d. */
        static int compareProducts(long a, long b, long c, long d) {
            int byHigh = Long.compare(highOf(a, b), highOf(c, d));
            // Turning the highest bit round makes the order with sign that without it.
            return byHigh != 0 ? byHigh : Long.compare(a * b ^ Long.MIN_VALUE, c * d ^ Long.MIN_VALUE);
        }

        static long rootOfProduct(long a, long b) {
            long root = 0;
            for (long bit = GREATEST_ROOT_BIT; bit > 0; bit >>= 1) {
                if (compareProducts(root + bit, root + bit, a, b) <= 0) {
                    root += bit;
                }
            }
            return root;
        }
    }
}
