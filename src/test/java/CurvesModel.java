import java.math.BigInteger;
import java.util.ArrayList;
import java.util.List;
import java.util.TreeSet;

/**
 * The document said again, slowly and in BigIntegers, to hold ExactCurves against: the CLOCK goes TICK by
 * TICK, ORDERS are sorted, the least amount of a VALUE is searched for, and totals are added up.
 */
final class CurvesModel {
    static final int NONE = -1, BAD = -2, REFUSED = -3;

    private static final BigInteger ZERO = BigInteger.ZERO, ONE = BigInteger.ONE;
    private static final BigInteger MOST = BigInteger.TEN.pow(14);
    private static final BigInteger NINE_ZEROS = BigInteger.TEN.pow(9);
    private static final BigInteger TWO_TO_64 = ONE.shiftLeft(64);

    static final class ModelPool {
        final int[] tokens = new int[2];
        int kind, fee;
        final BigInteger[] reserves = {ZERO, ZERO};
        BigInteger shares = ZERO;
        final BigInteger[] sharesOf = zeros(6);
        BigInteger tally = ZERO;
        int age;
    }

    static final class ModelMark {
        ModelPool pool;
        BigInteger tally;
        int age;
    }

    static final class ModelOrder {
        int player, number;
        boolean buys;
        BigInteger q, l, given, dealt = ZERO;
    }

    static final class ModelVault {
        BigInteger has = ZERO, parts = ZERO, index = NINE_ZEROS, rate = ZERO;
        final BigInteger[] partsOf = zeros(6);
    }

    static final class ModelLoan {
        int player, pool, side;
        BigInteger cover, units;
    }

    final BigInteger[][] balances = new BigInteger[6][];
    final BigInteger[] houses = zeros(4);
    final List<ModelPool> pools = new ArrayList<>();
    final ModelMark[] marks = new ModelMark[8];
    final List<ModelOrder> orders = new ArrayList<>();
    List<ModelOrder> cleared = new ArrayList<>();
    BigInteger clearedAmount = ZERO;
    int batchA = 0, batchB = 1;
    final ModelVault[] vaults = new ModelVault[4];
    final ModelLoan[] loans = new ModelLoan[10];
    int clock;

    CurvesModel() {
        for (int i = 0; i < 6; i++) {
            balances[i] = zeros(4);
        }
        for (int i = 0; i < 4; i++) {
            vaults[i] = new ModelVault();
        }
    }

    private static BigInteger[] zeros(int n) {
        BigInteger[] row = new BigInteger[n];
        java.util.Arrays.fill(row, ZERO);
        return row;
    }

    private static BigInteger big(long n) {
        return BigInteger.valueOf(n);
    }

    private static BigInteger cut(BigInteger a, BigInteger b) {
        return a.divide(b);
    }

    private static BigInteger up(BigInteger a, BigInteger b) {
        BigInteger[] both = a.divideAndRemainder(b);
        return both[1].signum() == 0 ? both[0] : both[0].add(ONE);
    }

    private static boolean below(BigInteger a, BigInteger b) {
        return a.compareTo(b) < 0;
    }

    private static boolean noPlayer(int player) {
        return player < 0 || player > 5;
    }

    private static boolean noToken(int token) {
        return token < 0 || token > 3;
    }

    private boolean noPool(int pool) {
        return pool < 0 || pool >= pools.size();
    }

    private boolean noLoan(int loan) {
        return loan < 0 || loan > 9 || loans[loan] == null;
    }

    private void move(int player, int token, BigInteger amount) {
        balances[player][token] = balances[player][token].add(amount);
    }

    BigInteger sumOf(int token) {
        BigInteger sum = houses[token].add(vaults[token].has);
        for (BigInteger[] row : balances) {
            sum = sum.add(row[token]);
        }
        for (ModelPool p : pools) {
            for (int side = 0; side < 2; side++) {
                sum = p.tokens[side] == token ? sum.add(p.reserves[side]) : sum;
            }
        }
        for (ModelOrder o : orders) {
            sum = (o.buys ? batchB : batchA) == token ? sum.add(o.given) : sum;
        }
        for (ModelLoan l : loans) {
            sum = l != null && pools.get(l.pool).tokens[l.side] == token ? sum.add(l.cover) : sum;
        }
        return sum;
    }

    long mint(int player, int token, long amount) {
        if (noPlayer(player) || noToken(token) || amount < 1 || amount > 100000000000000L) {
            return BAD;
        }
        if (below(MOST, sumOf(token).add(big(amount)))) {
            return REFUSED;
        }
        move(player, token, big(amount));
        return balances[player][token].longValueExact();
    }

    long balance(int player, int token) {
        return noPlayer(player) || noToken(token) ? BAD : balances[player][token].longValueExact();
    }

    long total(int token) {
        return noToken(token) ? BAD : sumOf(token).longValueExact();
    }

    long house(int token) {
        return noToken(token) ? BAD : houses[token].longValueExact();
    }

    int pool(int one, int two, int kind, int fee) {
        if (noToken(one) || noToken(two) || one == two || kind < 0 || kind > 1 || fee < 0 || fee > 1000) {
            return BAD;
        }
        if (pools.size() == 6) {
            return BAD;
        }
        ModelPool p = new ModelPool();
        p.tokens[0] = one;
        p.tokens[1] = two;
        p.kind = kind;
        p.fee = fee;
        pools.add(p);
        return pools.size() - 1;
    }

    long of(int pool, int what) {
        if (noPool(pool) || what < 0 || what > 14) {
            return BAD;
        }
        ModelPool p = pools.get(pool);
        BigInteger[] told = {p.reserves[0], p.reserves[1], p.shares, p.tally, big(p.age), big(p.kind), big(p.fee),
            big(p.tokens[0]), big(p.tokens[1])};
        return what < 9 ? told[what].longValue() : p.sharesOf[what - 9].longValueExact();
    }

    long join(int player, int pool, long u, long v) {
        if (noPlayer(player) || noPool(pool) || u < 1 || v < 1) {
            return BAD;
        }
        ModelPool p = pools.get(pool);
        BigInteger[] brought = {big(u), big(v)};
        for (int side = 0; side < 2; side++) {
            if (below(balances[player][p.tokens[side]], brought[side])) {
                return REFUSED;
            }
        }
        BigInteger n = null;
        if (p.shares.signum() == 0) {
            n = p.kind == 0 ? brought[0].multiply(brought[1]).sqrt() : brought[0].add(brought[1]);
        } else {
            for (int side = 0; side < 2; side++) {
                if (p.reserves[side].signum() > 0) {
                    BigInteger by = cut(brought[side].multiply(p.shares), p.reserves[side]);
                    n = n == null ? by : n.min(by);
                }
            }
            if (n.signum() == 0) {
                return REFUSED;
            }
            for (int side = 0; side < 2; side++) {
                brought[side] = up(n.multiply(p.reserves[side]), p.shares);
            }
        }
        for (int side = 0; side < 2; side++) {
            move(player, p.tokens[side], brought[side].negate());
            p.reserves[side] = p.reserves[side].add(brought[side]);
        }
        p.shares = p.shares.add(n);
        p.sharesOf[player] = p.sharesOf[player].add(n);
        return n.longValueExact();
    }

    long leave(int player, int pool, long n) {
        if (noPlayer(player) || noPool(pool) || n < 1) {
            return BAD;
        }
        ModelPool p = pools.get(pool);
        if (below(p.sharesOf[player], big(n))) {
            return REFUSED;
        }
        long answer = 0;
        for (int side = 1; side >= 0; side--) {
            BigInteger out = cut(big(n).multiply(p.reserves[side]), p.shares);
            p.reserves[side] = p.reserves[side].subtract(out);
            move(player, p.tokens[side], out);
            answer = out.longValueExact();
        }
        p.shares = p.shares.subtract(big(n));
        p.sharesOf[player] = p.sharesOf[player].subtract(big(n));
        return answer;
    }

    private BigInteger swapped(ModelPool p, int side, BigInteger i) {
        BigInteger kept = i.multiply(big(10000 - p.fee));
        BigInteger q = p.reserves[1 - side];
        if (p.kind == 1) {
            BigInteger o = cut(kept, big(10000));
            return below(q, o) ? ZERO : o;
        }
        return cut(q.multiply(kept), big(10000).multiply(p.reserves[side]).add(kept));
    }

    long swap(int player, int pool, int side, long i) {
        if (noPlayer(player) || noPool(pool) || side < 0 || side > 1 || i < 1) {
            return BAD;
        }
        ModelPool p = pools.get(pool);
        BigInteger o = swapped(p, side, big(i));
        if (below(balances[player][p.tokens[side]], big(i)) || o.signum() == 0) {
            return REFUSED;
        }
        move(player, p.tokens[side], big(-i));
        move(player, p.tokens[1 - side], o);
        p.reserves[side] = p.reserves[side].add(big(i));
        p.reserves[1 - side] = p.reserves[1 - side].subtract(o);
        return o.longValueExact();
    }

    long quote(int pool, int side, long i) {
        if (noPool(pool) || side < 0 || side > 1 || i < 1 || i > 100000000000000L) {
            return BAD;
        }
        BigInteger o = swapped(pools.get(pool), side, big(i));
        return o.signum() == 0 ? REFUSED : o.longValueExact();
    }

    int flash(int player, int pool, long t, long u, long a, long b) {
        if (noPlayer(player) || noPool(pool) || t < 0 || u < 0 || a < 0 || b < 0 || (t == 0 && u == 0)) {
            return BAD;
        }
        ModelPool p = pools.get(pool);
        BigInteger[] taken = {big(t), big(u)};
        BigInteger[] brought = {big(a), big(b)};
        BigInteger[] after = new BigInteger[2];
        BigInteger[] factor = new BigInteger[2];
        BigInteger whole = big(10000);
        for (int side = 0; side < 2; side++) {
            if (below(p.reserves[side], taken[side])) {
                return BAD;
            }
        }
        for (int side = 0; side < 2; side++) {
            if (below(balances[player][p.tokens[side]].add(taken[side]), brought[side])) {
                return REFUSED;
            }
            after[side] = p.reserves[side].subtract(taken[side]).add(brought[side]);
            factor[side] = whole.multiply(after[side]).subtract(big(p.fee).multiply(brought[side]));
            if (after[side].signum() < 0 || (p.kind == 0 && factor[side].signum() < 0)) {
                return REFUSED;
            }
        }
        boolean falls = p.kind == 0
            ? below(factor[0].multiply(factor[1]), whole.pow(2).multiply(p.reserves[0]).multiply(p.reserves[1]))
            : below(factor[0].add(factor[1]), whole.multiply(p.reserves[0].add(p.reserves[1])));
        if (falls) {
            return REFUSED;
        }
        for (int side = 0; side < 2; side++) {
            move(player, p.tokens[side], taken[side].subtract(brought[side]));
            p.reserves[side] = after[side];
        }
        return 1;
    }

    int tick(int n) {
        if (n < 0 || n > 1000) {
            return BAD;
        }
        for (int i = 0; i < n; i++) {
            oneTick();
        }
        return clock;
    }

    private void oneTick() {
        clock++;
        for (ModelPool p : pools) {
            if (p.reserves[0].signum() > 0 && p.reserves[1].signum() > 0) {
                p.tally = p.tally.add(cut(big(1000).multiply(p.reserves[1]), p.reserves[0])).mod(TWO_TO_64);
                p.age++;
            }
        }
        for (ModelVault v : vaults) {
            v.index = v.index.add(cut(v.index.multiply(v.rate), NINE_ZEROS)).min(BigInteger.TEN.pow(12));
        }
    }

    int mark(int k, int pool) {
        if (k < 0 || k > 7 || noPool(pool)) {
            return BAD;
        }
        marks[k] = new ModelMark();
        marks[k].pool = pools.get(pool);
        marks[k].tally = marks[k].pool.tally;
        marks[k].age = marks[k].pool.age;
        return 1;
    }

    long mean(int k) {
        if (k < 0 || k > 7 || marks[k] == null) {
            return BAD;
        }
        ModelMark m = marks[k];
        if (m.pool.age == m.age) {
            return NONE;
        }
        return cut(m.pool.tally.subtract(m.tally).mod(TWO_TO_64), big(m.pool.age - m.age)).longValueExact();
    }

    int batch(int a, int b) {
        if (noToken(a) || noToken(b) || a == b) {
            return BAD;
        }
        if (!orders.isEmpty()) {
            return REFUSED;
        }
        batchA = a;
        batchB = b;
        return 1;
    }

    int order(int player, int buy, long q, long l) {
        if (noPlayer(player) || buy < 0 || buy > 1 || q < 1 || q > 10000000000L || l < 1 || l > 1000000) {
            return BAD;
        }
        ModelOrder o = new ModelOrder();
        o.player = player;
        o.number = orders.size();
        o.buys = buy == 1;
        o.q = big(q);
        o.l = big(l);
        o.given = o.buys ? up(o.q.multiply(o.l), big(1000)) : o.q;
        int token = o.buys ? batchB : batchA;
        if (orders.size() == 40 || below(balances[player][token], o.given)) {
            return REFUSED;
        }
        move(player, token, o.given.negate());
        orders.add(o);
        return o.number;
    }

    private BigInteger sumAt(boolean buys, BigInteger price) {
        BigInteger sum = ZERO;
        for (ModelOrder o : orders) {
            if (o.buys == buys && (buys ? !below(o.l, price) : !below(price, o.l))) {
                sum = sum.add(o.q);
            }
        }
        return sum;
    }

    private BigInteger priceOfAll() {
        TreeSet<BigInteger> limits = new TreeSet<>();
        for (ModelOrder o : orders) {
            limits.add(o.l);
        }
        BigInteger best = null;
        BigInteger most = ZERO;
        BigInteger nearest = ZERO;
        for (BigInteger price : limits) {
            BigInteger bought = sumAt(true, price);
            BigInteger sold = sumAt(false, price);
            BigInteger lesser = bought.min(sold);
            BigInteger apart = bought.subtract(sold).abs();
            int more = lesser.compareTo(most);
            if (best == null || more > 0 || (more == 0 && below(apart, nearest))) {
                best = price;
                most = lesser;
                nearest = apart;
            }
        }
        return most.signum() == 0 ? ZERO : best;
    }

    private void dealSide(boolean buys, BigInteger price, BigInteger amount) {
        List<ModelOrder> row = new ArrayList<>();
        for (ModelOrder o : orders) {
            if (o.buys == buys && (buys ? !below(o.l, price) : !below(price, o.l))) {
                row.add(o);
            }
        }
        row.sort((one, two) -> {
            int byLimit = buys ? two.l.compareTo(one.l) : one.l.compareTo(two.l);
            return byLimit != 0 ? byLimit : Integer.compare(one.number, two.number);
        });
        BigInteger left = amount;
        for (ModelOrder o : row) {
            o.dealt = o.q.min(left);
            left = left.subtract(o.dealt);
        }
    }

    long clear() {
        BigInteger price = priceOfAll();
        clearedAmount = price.signum() == 0 ? ZERO : sumAt(true, price).min(sumAt(false, price));
        dealSide(true, price, clearedAmount);
        dealSide(false, price, clearedAmount);
        BigInteger over = ZERO;
        for (ModelOrder o : orders) {
            BigInteger worth = o.dealt.multiply(price);
            if (o.buys) {
                BigInteger paid = up(worth, big(1000));
                move(o.player, batchA, o.dealt);
                move(o.player, batchB, o.given.subtract(paid));
                over = over.add(paid);
            } else {
                BigInteger got = cut(worth, big(1000));
                move(o.player, batchB, got);
                move(o.player, batchA, o.q.subtract(o.dealt));
                over = over.subtract(got);
            }
        }
        houses[batchB] = houses[batchB].add(over);
        cleared = new ArrayList<>(orders);
        orders.clear();
        return price.longValueExact();
    }

    long dealt(int what) {
        if (what < 0 || what > 1 + cleared.size() && what > 1) {
            return BAD;
        }
        return what == 0 ? clearedAmount.longValueExact()
            : what == 1 ? cleared.size() : cleared.get(what - 2).dealt.longValueExact();
    }

    long rate(int token, long v) {
        if (noToken(token) || v < 0 || v > 1000000) {
            return BAD;
        }
        long was = vaults[token].rate.longValueExact();
        vaults[token].rate = big(v);
        return was;
    }

    private BigInteger debt(ModelLoan l) {
        return up(l.units.multiply(vaults[pools.get(l.pool).tokens[1 - l.side]].index), NINE_ZEROS);
    }

    private BigInteger worth(int token) {
        BigInteger sum = vaults[token].has;
        for (ModelLoan l : loans) {
            if (l != null && pools.get(l.pool).tokens[1 - l.side] == token) {
                sum = sum.add(debt(l));
            }
        }
        return sum;
    }

    private BigInteger value(ModelPool p, int side, BigInteger amount) {
        if (p.reserves[side].signum() == 0) {
            return ZERO;
        }
        return cut(amount.multiply(p.reserves[1 - side]), p.reserves[side]).min(BigInteger.TEN.pow(18));
    }

    long lend(int player, int token, long amount) {
        if (noPlayer(player) || noToken(token) || amount < 1) {
            return BAD;
        }
        ModelVault v = vaults[token];
        if (below(balances[player][token], big(amount))) {
            return REFUSED;
        }
        BigInteger n = v.parts.signum() == 0 ? big(amount) : cut(big(amount).multiply(v.parts), worth(token));
        if (n.signum() == 0) {
            return REFUSED;
        }
        move(player, token, big(-amount));
        v.has = v.has.add(big(amount));
        v.parts = v.parts.add(n);
        v.partsOf[player] = v.partsOf[player].add(n);
        return n.longValueExact();
    }

    long redeem(int player, int token, long n) {
        if (noPlayer(player) || noToken(token) || n < 1) {
            return BAD;
        }
        ModelVault v = vaults[token];
        if (below(v.partsOf[player], big(n))) {
            return REFUSED;
        }
        BigInteger amount = cut(big(n).multiply(worth(token)), v.parts);
        if (amount.signum() == 0 || below(v.has, amount)) {
            return REFUSED;
        }
        v.has = v.has.subtract(amount);
        v.parts = v.parts.subtract(big(n));
        v.partsOf[player] = v.partsOf[player].subtract(big(n));
        move(player, token, amount);
        return amount.longValueExact();
    }

    long vault(int token, int what) {
        if (noToken(token) || what < 0 || what > 10) {
            return BAD;
        }
        ModelVault v = vaults[token];
        BigInteger[] told = {v.has, worth(token), v.parts, v.index, v.rate};
        return (what < 5 ? told[what] : v.partsOf[what - 5]).longValueExact();
    }

    int loan(int player, int pool, int side, long c, long d) {
        if (noPlayer(player) || noPool(pool) || side < 0 || side > 1 || c < 1 || d < 1) {
            return BAD;
        }
        ModelPool p = pools.get(pool);
        int number = 0;
        while (number < 10 && loans[number] != null) {
            number++;
        }
        ModelVault v = vaults[p.tokens[1 - side]];
        boolean enough = !below(balances[player][p.tokens[side]], big(c)) && !below(v.has, big(d));
        if (number == 10 || !enough
            || below(big(60).multiply(value(p, side, big(c))), big(100).multiply(big(d)))) {
            return REFUSED;
        }
        ModelLoan l = new ModelLoan();
        l.player = player;
        l.pool = pool;
        l.side = side;
        l.cover = big(c);
        l.units = up(big(d).multiply(NINE_ZEROS), v.index);
        move(player, p.tokens[side], big(-c));
        move(player, p.tokens[1 - side], big(d));
        v.has = v.has.subtract(big(d));
        loans[number] = l;
        return number;
    }

    private boolean uncovered(ModelLoan l) {
        BigInteger value = value(pools.get(l.pool), l.side, l.cover);
        return below(big(80).multiply(value), big(100).multiply(debt(l)));
    }

    long ofLoan(int loan, int what) {
        if (noLoan(loan) || what < 0 || what > 7) {
            return BAD;
        }
        ModelLoan l = loans[loan];
        BigInteger[] told = {big(l.player), big(l.pool), big(l.side), l.cover, l.units, debt(l),
            value(pools.get(l.pool), l.side, l.cover), uncovered(l) ? ONE : ZERO};
        return told[what].longValueExact();
    }

    long pay(int player, int loan, long m) {
        if (noPlayer(player) || noLoan(loan) || m < 1) {
            return BAD;
        }
        ModelLoan l = loans[loan];
        ModelPool p = pools.get(l.pool);
        int token = p.tokens[1 - l.side];
        BigInteger taken = debt(l).min(big(m));
        if (below(balances[player][token], taken)) {
            return REFUSED;
        }
        BigInteger left = debt(l).subtract(taken);
        move(player, token, taken.negate());
        vaults[token].has = vaults[token].has.add(taken);
        l.units = up(left.multiply(NINE_ZEROS), vaults[token].index);
        if (debt(l).signum() == 0) {
            move(l.player, p.tokens[l.side], l.cover);
            loans[loan] = null;
        }
        return taken.longValueExact();
    }

    long close(int player, int loan) {
        if (noPlayer(player) || noLoan(loan)) {
            return BAD;
        }
        ModelLoan l = loans[loan];
        ModelPool p = pools.get(l.pool);
        int token = p.tokens[1 - l.side];
        BigInteger debt = debt(l);
        if (!uncovered(l) || below(balances[player][token], debt)) {
            return REFUSED;
        }
        BigInteger gets = leastOf(p, l, up(debt.multiply(big(105)), big(100)));
        move(player, token, debt.negate());
        vaults[token].has = vaults[token].has.add(debt);
        move(player, p.tokens[l.side], gets);
        move(l.player, p.tokens[l.side], l.cover.subtract(gets));
        loans[loan] = null;
        return gets.longValueExact();
    }

    private BigInteger leastOf(ModelPool p, ModelLoan l, BigInteger wanted) {
        BigInteger low = ZERO;
        BigInteger high = l.cover;
        while (below(low, high)) {
            BigInteger middle = low.add(high).shiftRight(1);
            if (below(value(p, l.side, middle), wanted)) {
                low = middle.add(ONE);
            } else {
                high = middle;
            }
        }
        return low;
    }

    int count(int what) {
        int open = 0;
        for (ModelLoan l : loans) {
            open += l != null ? 1 : 0;
        }
        int[] told = {pools.size(), orders.size(), open, clock};
        return what < 0 || what > 3 ? BAD : told[what];
    }
}
