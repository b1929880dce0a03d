/** Promises 1 to 28, a method each: ordinary inputs, the edges that the document names, and wrong inputs. */
public final class PromisesTest {
    private static final long MOST = 100000000000000L;
    private static final long WEALTH = 1000000;
    private static final int NONE = -1, BAD = -2, REFUSED = -3;
    private static final int PRODUCT = 0, SUM = 1, SELL = 0, BUY = 1;
    private static final int[] OUTSIDE = {-1, Integer.MIN_VALUE, Integer.MAX_VALUE};
    private static final long[] BELOW_ONE = {0, -1, Long.MIN_VALUE};

    private static final Checks CHECKS = new Checks();

    public static void main(String[] args) {
        newObject();
        mint();
        balance();
        total();
        house();
        pool();
        of();
        join();
        joinEdges();
        leave();
        swap();
        swapOfGreatAmounts();
        quote();
        flash();
        flashOfSum();
        tick();
        mark();
        mean();
        batch();
        order();
        clear();
        clearChoosesPrice();
        clearGoesByLimits();
        dealt();
        rate();
        lend();
        redeem();
        vault();
        loan();
        loanByAnotherPool();
        loanOfGreatValue();
        ofLoan();
        pay();
        close();
        closeEdges();
        count();
        CHECKS.end();
    }

    private static void due(String call, long got, long want) {
        CHECKS.due(call, got, want);
    }

    /** An object in which the first two PLAYERS have an amount of every TOKEN. */
    private static ExactCurves rich(long amount) {
        ExactCurves x = new ExactCurves();
        for (int token = 0; token < 4; token++) {
            x.mint(0, token, amount);
            x.mint(1, token, amount);
        }
        return x;
    }

    /** As rich(), with POOL 0 of TOKENS 0 and 1, joined by PLAYER 0. */
    private static ExactCurves pooled(int kind, int fee, long u, long v) {
        ExactCurves x = rich(MOST / 2);
        x.pool(0, 1, kind, fee);
        x.join(0, 0, u, v);
        return x;
    }

    private static void reserves(ExactCurves x, int pool, long one, long two, long shares) {
        due("of(" + pool + ", 0)", x.of(pool, 0), one);
        due("of(" + pool + ", 1)", x.of(pool, 1), two);
        due("of(" + pool + ", 2)", x.of(pool, 2), shares);
    }

    private static void balances(ExactCurves x, int player, long one, long two) {
        due("balance(" + player + ", 0)", x.balance(player, 0), one);
        due("balance(" + player + ", 1)", x.balance(player, 1), two);
    }

    private static void newObject() {
        ExactCurves x = new ExactCurves();
        for (int token = 0; token < 4; token++) {
            for (int player = 0; player < 6; player++) {
                due("new balance", x.balance(player, token), 0);
                due("new parts", x.vault(token, 5 + player), 0);
            }
            due("new total", x.total(token), 0);
            due("new house", x.house(token), 0);
            due("new vault", x.vault(token, 0), 0);
            due("new worth", x.vault(token, 1), 0);
            due("all new parts", x.vault(token, 2), 0);
            due("new index", x.vault(token, 3), 1000000000);
            due("new rate", x.vault(token, 4), 0);
        }
        for (int what = 0; what < 4; what++) {
            due("new count", x.count(what), 0);
        }
        due("new of", x.of(0, 0), BAD);
        due("new ofLoan", x.ofLoan(0, 0), BAD);
        for (int k = 0; k < 8; k++) {
            due("new mean", x.mean(k), BAD);
        }
        due("new clear", x.clear(), 0);
        ExactCurves other = new ExactCurves();
        x.mint(0, 0, 5);
        due("another object's balance", other.balance(0, 0), 0);
    }

    private static void mint() {
        ExactCurves x = new ExactCurves();
        due("mint", x.mint(5, 3, 7), 7);
        due("mint answers the BALANCE", x.mint(5, 3, 8), 15);
        for (int wrong : OUTSIDE) {
            due("mint wrong player", x.mint(wrong, 0, 1), BAD);
            due("mint wrong token", x.mint(0, wrong, 1), BAD);
        }
        due("mint player 6", x.mint(6, 0, 1), BAD);
        due("mint token 4", x.mint(0, 4, 1), BAD);
        for (long wrong : BELOW_ONE) {
            due("mint wrong amount", x.mint(0, 0, wrong), BAD);
        }
        due("mint above the most", x.mint(0, 0, MOST + 1), BAD);
        due("mint far above the most", x.mint(0, 0, Long.MAX_VALUE), BAD);
        due("mint beyond the most in all", x.mint(0, 3, MOST - 14), REFUSED);
        due("mint up to the most in all", x.mint(0, 3, MOST - 15), MOST - 15);
        due("mint one more", x.mint(5, 3, 1), REFUSED);
        due("mint of another TOKEN", x.mint(0, 2, MOST), MOST);
        due("total", x.total(3), MOST);
    }

    private static void balance() {
        ExactCurves x = new ExactCurves();
        x.mint(2, 1, 9);
        due("balance(2, 1)", x.balance(2, 1), 9);
        due("balance(1, 2)", x.balance(1, 2), 0);
        due("balance(2, 0)", x.balance(2, 0), 0);
        for (int wrong : OUTSIDE) {
            due("balance wrong player", x.balance(wrong, 0), BAD);
            due("balance wrong token", x.balance(0, wrong), BAD);
        }
        due("balance player 6", x.balance(6, 0), BAD);
        due("balance token 4", x.balance(0, 4), BAD);
    }

    private static void total() {
        ExactCurves x = rich(100000);
        x.pool(0, 1, PRODUCT, 30);
        x.join(0, 0, 10000, 20000);
        due("total with a POOL", x.total(0), 200000);
        x.order(0, SELL, 10, 333);
        x.order(1, BUY, 10, 333);
        due("total with ORDERS", x.total(0), 200000);
        due("total of b with ORDERS", x.total(1), 200000);
        x.clear();
        due("total with the HOUSE", x.total(1), 200000);
        x.lend(0, 1, 5000);
        due("total with a VAULT", x.total(1), 200000);
        due("loan", x.loan(1, 0, 0, 1000, 1000), 0);
        due("total with a COVER", x.total(0), 200000);
        due("total with a DEBT", x.total(1), 200000);
        due("total(2)", x.total(2), 200000);
        for (int wrong : OUTSIDE) {
            due("total wrong", x.total(wrong), BAD);
        }
        due("total(4)", x.total(4), BAD);
    }

    private static void house() {
        ExactCurves x = rich(100000);
        x.batch(2, 3);
        x.order(0, SELL, 10, 333);
        x.order(1, BUY, 10, 333);
        due("house before", x.house(3), 0);
        due("clear", x.clear(), 333);
        // The buyer pays 3330 // 1000 = 4, the seller gets 3.
        due("house(3)", x.house(3), 1);
        due("house(2)", x.house(2), 0);
        due("house(1)", x.house(1), 0);
        for (int wrong : OUTSIDE) {
            due("house wrong", x.house(wrong), BAD);
        }
        due("house(4)", x.house(4), BAD);
    }

    private static void pool() {
        ExactCurves x = new ExactCurves();
        for (int wrong : OUTSIDE) {
            due("pool wrong one", x.pool(wrong, 1, 0, 0), BAD);
            due("pool wrong two", x.pool(1, wrong, 0, 0), BAD);
            due("pool wrong kind", x.pool(0, 1, wrong, 0), BAD);
            due("pool wrong fee", x.pool(0, 1, 0, wrong), BAD);
        }
        due("pool token 4", x.pool(4, 1, 0, 0), BAD);
        due("pool alike", x.pool(2, 2, 0, 0), BAD);
        due("pool kind 2", x.pool(0, 1, 2, 0), BAD);
        due("pool fee 1001", x.pool(0, 1, 0, 1001), BAD);
        due("count after wrong ones", x.count(0), 0);
        for (int i = 0; i < 6; i++) {
            due("pool " + i, x.pool(3, i % 3, i % 2, i * 200), i);
        }
        due("pool 6", x.pool(0, 1, 0, 0), BAD);
        due("fee 1000", x.of(5, 6), 1000);
    }

    private static void of() {
        ExactCurves x = rich(1000);
        x.pool(3, 1, SUM, 1000);
        x.pool(2, 0, PRODUCT, 7);
        x.join(1, 1, 100, 400);
        x.tick(2);
        long[] want = {100, 400, 200, 8000, 2, PRODUCT, 7, 2, 0, 0, 200, 0, 0, 0, 0};
        for (int what = 0; what < 15; what++) {
            due("of(1, " + what + ")", x.of(1, what), want[what]);
        }
        long[] empty = {0, 0, 0, 0, 0, SUM, 1000, 3, 1, 0, 0, 0, 0, 0, 0};
        for (int what = 0; what < 15; what++) {
            due("of(0, " + what + ")", x.of(0, what), empty[what]);
        }
        for (int wrong : OUTSIDE) {
            due("of wrong pool", x.of(wrong, 0), BAD);
            due("of wrong what", x.of(0, wrong), BAD);
        }
        due("of(2, 0)", x.of(2, 0), BAD);
        due("of(0, 15)", x.of(0, 15), BAD);
    }

    private static void join() {
        ExactCurves x = rich(1000);
        x.pool(0, 1, PRODUCT, 0);
        x.pool(0, 1, SUM, 0);
        for (int wrong : OUTSIDE) {
            due("join wrong player", x.join(wrong, 0, 1, 1), BAD);
            due("join wrong pool", x.join(0, wrong, 1, 1), BAD);
        }
        due("join player 6", x.join(6, 0, 1, 1), BAD);
        due("join pool 2", x.join(0, 2, 1, 1), BAD);
        for (long wrong : BELOW_ONE) {
            due("join wrong u", x.join(0, 0, wrong, 1), BAD);
            due("join wrong v", x.join(0, 0, 1, wrong), BAD);
        }
        due("join above BALANCE 0", x.join(0, 0, 1001, 1), REFUSED);
        due("join above BALANCE 1", x.join(0, 0, 1, Long.MAX_VALUE), REFUSED);
        // The root of 143 is 11.95.
        due("join, a root cut off", x.join(0, 0, 11, 13), 11);
        reserves(x, 0, 11, 13, 11);
        balances(x, 0, 989, 987);
        // 5 11 / 11 = 5, 5 11 / 13 = 4; 4 11 // 11 = 4 and 4 13 // 11 = 5 come.
        due("join again", x.join(1, 0, 5, 5), 4);
        reserves(x, 0, 15, 18, 15);
        balances(x, 1, 996, 995);
        due("SHARES of 1", x.of(0, 10), 4);
        due("SHARES of 0", x.of(0, 9), 11);
        due("join for nothing", x.join(1, 0, 1000 - 4, 1), REFUSED);
        reserves(x, 0, 15, 18, 15);
        due("join a SUM", x.join(0, 1, 30, 1), 31);
        reserves(x, 1, 30, 1, 31);
        // 30 31 / 30 = 31, 3 31 / 1 = 93; 31 30 // 31 = 30 and 31 // 31 = 1.
        due("join a SUM again", x.join(1, 1, 30, 3), 31);
        reserves(x, 1, 60, 2, 62);
        due("join needs u even if less comes", x.join(1, 1, 967, 1), REFUSED);
    }

    private static void joinEdges() {
        ExactCurves x = rich(1000);
        x.pool(0, 1, SUM, 0);
        x.join(0, 0, 10, 20);
        due("swap all of SIDE 1 out", x.swap(1, 0, 0, 20), 20);
        reserves(x, 0, 30, 0, 30);
        due("join, SIDE 1 asks for nothing", x.join(1, 0, 7, 1), 7);
        reserves(x, 0, 37, 0, 37);
        balances(x, 1, 973, 1020);
        due("join needs v all the same", x.join(1, 0, 7, 1021), REFUSED);
        x.mint(2, 0, 5);
        due("join without any of SIDE 1", x.join(2, 0, 5, 1), REFUSED);
        x.mint(3, 1, 5);
        due("join without any of SIDE 0", x.join(3, 0, 1, 5), REFUSED);
        due("join needs v to be 1", x.join(1, 0, 7, 0), BAD);
        ExactCurves y = new ExactCurves();
        y.mint(0, 0, MOST);
        y.mint(0, 1, MOST);
        y.pool(0, 1, PRODUCT, 0);
        // (10^14 - 1) (10^14 - 2): 10^14 - 2 squared is below it, 10^14 - 1 squared is not.
        due("join with a great root", y.join(0, 0, MOST - 1, MOST - 2), MOST - 2);
        due("join with the last", y.join(0, 0, 1, 2), REFUSED);
        // With S = 10^14 - 2: (S - 1) (S + 1) / S = S - 1.
        due("leave but one", y.leave(0, 0, MOST - 3), MOST - 3);
        reserves(y, 0, 2, 1, 1);
        ExactCurves z = new ExactCurves();
        z.mint(0, 0, MOST);
        z.mint(0, 1, MOST);
        z.pool(0, 1, SUM, 0);
        due("join a SUM with all", z.join(0, 0, MOST, MOST), 2 * MOST);
        due("leave with a half", z.leave(0, 0, MOST), MOST / 2);
        due("join a SUM with great amounts", z.join(0, 0, MOST / 2, MOST / 2 - 1), MOST - 2);
        reserves(z, 0, MOST - 1, MOST - 1, 2 * MOST - 2);
    }

    private static void leave() {
        ExactCurves x = pooled(PRODUCT, 0, 11, 13);
        for (int wrong : OUTSIDE) {
            due("leave wrong player", x.leave(wrong, 0, 1), BAD);
            due("leave wrong pool", x.leave(0, wrong, 1), BAD);
        }
        due("leave player 6", x.leave(6, 0, 1), BAD);
        due("leave pool 1", x.leave(0, 1, 1), BAD);
        for (long wrong : BELOW_ONE) {
            due("leave wrong n", x.leave(0, 0, wrong), BAD);
        }
        due("leave with more", x.leave(0, 0, 12), REFUSED);
        due("leave with far more", x.leave(0, 0, Long.MAX_VALUE), REFUSED);
        due("leave with none", x.leave(1, 0, 1), REFUSED);
        // 5 13 / 11 = 5.
        due("leave", x.leave(0, 0, 5), 5);
        reserves(x, 0, 6, 8, 6);
        balances(x, 0, MOST / 2 - 6, MOST / 2 - 8);
        due("SHARES left", x.of(0, 9), 6);
        due("leave with all", x.leave(0, 0, 6), 6);
        reserves(x, 0, 0, 0, 0);
        balances(x, 0, MOST / 2, MOST / 2);
        due("join anew", x.join(1, 0, 4, 9), 6);
        ExactCurves y = pooled(PRODUCT, 0, 1, 100);
        due("leave with SIDE 0 paying nothing", y.leave(0, 0, 9), 0);
        reserves(y, 0, 1, 10, 1);
    }

    private static void swap() {
        ExactCurves x = pooled(PRODUCT, 100, 1000, 2000);
        for (int wrong : OUTSIDE) {
            due("swap wrong player", x.swap(wrong, 0, 0, 1), BAD);
            due("swap wrong pool", x.swap(0, wrong, 0, 1), BAD);
            due("swap wrong side", x.swap(0, 0, wrong, 1), BAD);
        }
        due("swap player 6", x.swap(6, 0, 0, 1), BAD);
        due("swap pool 1", x.swap(0, 1, 0, 1), BAD);
        due("swap side 2", x.swap(0, 0, 2, 1), BAD);
        for (long wrong : BELOW_ONE) {
            due("swap wrong i", x.swap(0, 0, 0, wrong), BAD);
        }
        due("swap above the BALANCE", x.swap(1, 0, 0, MOST / 2 + 1), REFUSED);
        due("swap far above the BALANCE", x.swap(1, 0, 0, Long.MAX_VALUE), REFUSED);
        // 2000 990000 / (10000000 + 990000) = 180.16.
        due("swap", x.swap(1, 0, 0, 100), 180);
        reserves(x, 0, 1100, 1820, 1414);
        balances(x, 1, MOST / 2 - 100, MOST / 2 + 180);
        due("swap for nothing", x.swap(1, 0, 1, 1), REFUSED);
        // 1100 19800 / (18200000 + 19800) = 1.19.
        due("swap the other way", x.swap(1, 0, 1, 2), 1);
        ExactCurves y = pooled(SUM, 1000, 50, 90);
        due("swap in a SUM", y.swap(1, 0, 0, 99), 89);
        reserves(y, 0, 149, 1, 140);
        due("swap in a SUM above q", y.swap(1, 0, 0, 3), REFUSED);
        due("swap in a SUM for all", y.swap(1, 0, 0, 2), 1);
        due("swap in a SUM for nothing", y.swap(1, 0, 1, 1), REFUSED);
        y.pool(2, 3, PRODUCT, 0);
        due("swap in an empty POOL", y.swap(0, 1, 0, 10), REFUSED);
    }

    private static void swapOfGreatAmounts() {
        ExactCurves x = rich(MOST / 2);
        x.pool(0, 1, PRODUCT, 30);
        x.join(0, 0, MOST / 2, MOST / 2);
        // q i 9970 / (10000 p + i 9970), all of 5 10^13, is 5 10^13 9970 / 19970.
        due("swap of great amounts", x.swap(1, 0, 0, MOST / 2), 24962443665498L);
        reserves(x, 0, MOST, MOST / 2 - 24962443665498L, MOST / 2);
        ExactCurves y = pooled(PRODUCT, 0, 1, 1);
        due("swap of one for nothing, however much comes", y.swap(1, 0, 0, MOST / 2), REFUSED);
        ExactCurves z = pooled(PRODUCT, 0, 1, MOST / 2);
        due("swap much out", z.swap(1, 0, 0, MOST / 2 - 1), MOST / 2 - 1);
    }

    private static void quote() {
        ExactCurves x = pooled(PRODUCT, 100, 1000, 2000);
        for (int wrong : OUTSIDE) {
            due("quote wrong pool", x.quote(wrong, 0, 1), BAD);
            due("quote wrong side", x.quote(0, wrong, 1), BAD);
        }
        due("quote pool 1", x.quote(1, 0, 1), BAD);
        due("quote side 2", x.quote(0, 2, 1), BAD);
        for (long wrong : BELOW_ONE) {
            due("quote wrong i", x.quote(0, 0, wrong), BAD);
        }
        due("quote above the most", x.quote(0, 0, MOST + 1), BAD);
        due("quote", x.quote(0, 0, 100), 180);
        due("quote of one", x.quote(0, 0, 1), 1);
        due("quote changes nothing", x.quote(0, 0, 100), 180);
        reserves(x, 0, 1000, 2000, 1414);
        due("quote the most, whoever has it", x.quote(0, 0, MOST), 1999);
        due("quote nothing", x.quote(0, 1, 2), REFUSED);
        ExactCurves y = pooled(SUM, 0, 50, 90);
        due("quote of a SUM", y.quote(0, 1, 50), 50);
        due("quote of a SUM above q", y.quote(0, 1, 51), REFUSED);
        ExactCurves z = pooled(PRODUCT, 0, MOST / 2, MOST / 2);
        // 5 10^13 10^18 / (5 10^17 + 10^18) = 5 10^13 2 / 3.
        due("quote of great amounts", z.quote(0, 0, MOST), 33333333333333L);
    }

    private static void flash() {
        ExactCurves x = pooled(PRODUCT, 100, 1000, 1000);
        for (int wrong : OUTSIDE) {
            due("flash wrong player", x.flash(wrong, 0, 1, 0, 2, 0), BAD);
            due("flash wrong pool", x.flash(0, wrong, 1, 0, 2, 0), BAD);
        }
        due("flash player 6", x.flash(6, 0, 1, 0, 2, 0), BAD);
        due("flash pool 1", x.flash(0, 1, 1, 0, 2, 0), BAD);
        due("flash t below 0", x.flash(1, 0, -1, 1, 9, 9), BAD);
        due("flash u below 0", x.flash(1, 0, 1, -1, 9, 9), BAD);
        due("flash a below 0", x.flash(1, 0, 1, 1, -1, 9), BAD);
        due("flash b below 0", x.flash(1, 0, 1, 1, 9, Long.MIN_VALUE), BAD);
        due("flash of nothing", x.flash(1, 0, 0, 0, 9, 9), BAD);
        due("flash above RESERVE 0", x.flash(1, 0, 1001, 0, 2000, 0), BAD);
        due("flash above RESERVE 1", x.flash(1, 0, 0, Long.MAX_VALUE, 0, 2000), BAD);
        // Taking 100 back takes 101.01: 10000 (900 + a) - 100 a must be 10^7 or more.
        due("flash, one too few", x.flash(1, 0, 100, 0, 101, 0), REFUSED);
        reserves(x, 0, 1000, 1000, 1000);
        due("flash", x.flash(1, 0, 100, 0, 102, 0), 1);
        reserves(x, 0, 1002, 1000, 1000);
        balances(x, 1, MOST / 2 - 2, MOST / 2);
        due("flash paid with the other SIDE", x.flash(1, 0, 500, 0, 0, 1006), REFUSED);
        due("flash paid with the other SIDE", x.flash(1, 0, 500, 0, 0, 1007), 1);
        reserves(x, 0, 502, 2007, 1000);
        balances(x, 1, MOST / 2 - 2 + 500, MOST / 2 - 1007);
        due("flash with more than one has", x.flash(1, 0, 0, 1, MOST, 0), REFUSED);
        due("flash with far more", x.flash(1, 0, 0, 1, 0, Long.MAX_VALUE), REFUSED);
        due("flash of all, with what was taken", x.flash(2, 0, 502, 2007, 502, 2007), REFUSED);
        ExactCurves y = pooled(PRODUCT, 0, 10, 10);
        due("flash without a fee or a BALANCE", y.flash(2, 0, 10, 10, 10, 10), 1);
        due("flash of all for nothing", y.flash(2, 0, 10, 10, 0, 0), REFUSED);
        due("flash with one more than taken", y.flash(2, 0, 10, 10, 11, 10), REFUSED);
        ExactCurves z = rich(WEALTH);
        z.pool(0, 1, PRODUCT, 0);
        z.join(0, 0, 10, 10);
        z.mint(2, 0, 5);
        due("flash brings SIDE 0 that one has", z.flash(2, 0, 1, 3, 6, 0), 1);
        due("SIDE 0 is brought", z.balance(2, 0), 0);
        due("SIDE 1 is taken", z.balance(2, 1), 3);
        due("flash brings SIDE 0 that one has not", z.flash(2, 0, 0, 1, 1, 0), REFUSED);
        due("flash brings SIDE 1 that one has not", z.flash(2, 0, 4, 0, 0, 4), REFUSED);
        // 15 7 = 105, 10 10 = 100, 11 10 = 110.
        due("flash that takes too much", z.flash(2, 0, 5, 0, 0, 3), REFUSED);
        reserves(z, 0, 15, 7, 10);
        due("flash brings SIDE 1 that one has", z.flash(2, 0, 4, 0, 0, 3), 1);
        reserves(z, 0, 11, 10, 10);
        balances(z, 2, 4, 0);
        due("flash of both SIDES", z.flash(2, 0, 3, 4, 5, 4), 1);
        reserves(z, 0, 13, 10, 10);
        balances(z, 2, 2, 0);
        flashOfGreatAmounts();
    }

    private static void flashOfGreatAmounts() {
        ExactCurves x = new ExactCurves();
        x.mint(0, 0, MOST);
        x.mint(0, 1, MOST);
        x.pool(0, 1, PRODUCT, 0);
        x.join(0, 0, MOST - 1, MOST - 1);
        // 10^14 (10^14 - 2) is one below (10^14 - 1) squared.
        due("flash, one below a great product", x.flash(0, 0, 0, 1, 1, 0), REFUSED);
        due("flash, at a great product", x.flash(0, 0, 1, 1, 1, 1), 1);
    }

    private static void flashOfSum() {
        ExactCurves x = pooled(SUM, 100, 1000, 500);
        due("flash of a SUM, one too few", x.flash(1, 0, 100, 0, 101, 0), REFUSED);
        due("flash of a SUM", x.flash(1, 0, 100, 0, 102, 0), 1);
        reserves(x, 0, 1002, 500, 1500);
        due("flash of a SUM by the other SIDE", x.flash(1, 0, 1002, 0, 0, 1012), REFUSED);
        due("flash of a SUM by the other SIDE", x.flash(1, 0, 1002, 0, 0, 1013), 1);
        reserves(x, 0, 0, 1513, 1500);
        due("flash above an empty RESERVE", x.flash(1, 0, 1, 0, 2, 0), BAD);
        ExactCurves y = pooled(SUM, 0, 10, 5);
        due("flash of a SUM without a fee", y.flash(1, 0, 10, 5, 0, 15), 1);
        reserves(y, 0, 0, 15, 15);
        due("flash of a SUM for the other SIDE", y.flash(1, 0, 0, 15, 15, 0), 1);
        reserves(y, 0, 15, 0, 15);
        due("flash of a SUM, one too few", y.flash(1, 0, 15, 0, 7, 7), REFUSED);
    }

    private static void tick() {
        ExactCurves x = pooled(PRODUCT, 0, 7, 20);
        x.pool(0, 1, SUM, 0);
        x.rate(2, 1000000);
        due("tick(0)", x.tick(0), 0);
        due("tick(1)", x.tick(1), 1);
        // 20000 / 7 = 2857.
        due("TALLY", x.of(0, 3), 2857);
        due("AGE", x.of(0, 4), 1);
        due("INDEX", x.vault(2, 3), 1001000000);
        due("INDEX without RATE", x.vault(1, 3), 1000000000);
        x.rate(0, 2);
        x.rate(3, 3);
        due("tick(1)", x.tick(1), 2);
        due("INDEX", x.vault(2, 3), 1002001000);
        due("INDEX of VAULT 0", x.vault(0, 3), 1000000002);
        due("INDEX of VAULT 3", x.vault(3, 3), 1000000003);
        due("tick(1000)", x.tick(1000), 1002);
        due("TALLY", x.of(0, 3), 2857 * 1002);
        due("AGE", x.of(0, 4), 1002);
        due("TALLY of an empty POOL", x.of(1, 3), 0);
        due("AGE of an empty POOL", x.of(1, 4), 0);
        due("tick(-1)", x.tick(-1), BAD);
        due("tick(1001)", x.tick(1001), BAD);
        due("tick(MAX)", x.tick(Integer.MAX_VALUE), BAD);
        due("tick(MIN)", x.tick(Integer.MIN_VALUE), BAD);
        due("THE CLOCK", x.count(3), 1002);
        x.join(0, 1, 5, 5);
        x.swap(1, 1, 0, 5);
        x.tick(3);
        due("AGE of a SUM with an empty SIDE", x.of(1, 4), 0);
        for (int i = 0; i < 6; i++) {
            x.tick(1000);
        }
        due("INDEX at its most", x.vault(2, 3), 1000000000000L);
        x.tick(1000);
        due("INDEX stays at its most", x.vault(2, 3), 1000000000000L);
        ExactCurves y = pooled(PRODUCT, 0, 1, MOST / 2);
        y.tick(1000);
        // 5 10^16 1000 runs over 64 bits.
        due("TALLY runs over", y.of(0, 3), 50000000000000000L * 1000L);
    }

    private static void mark() {
        ExactCurves x = pooled(PRODUCT, 0, 10, 20);
        due("mark", x.mark(0, 0), 1);
        due("mark(7)", x.mark(7, 0), 1);
        due("mark(8)", x.mark(8, 0), BAD);
        for (int wrong : OUTSIDE) {
            due("mark wrong k", x.mark(wrong, 0), BAD);
            due("mark wrong pool", x.mark(1, wrong), BAD);
        }
        due("mark pool 1", x.mark(1, 1), BAD);
        due("mean of no MARK", x.mean(1), BAD);
        x.tick(10);
        x.swap(1, 0, 0, 10);
        due("mark again", x.mark(7, 0), 1);
        x.tick(10);
        due("mean since the first", x.mean(0), (2000 * 10 + 500 * 10) / 20);
        due("mean since the second", x.mean(7), 500);
    }

    private static void mean() {
        ExactCurves x = pooled(PRODUCT, 0, 10, 20);
        x.pool(0, 1, SUM, 0);
        x.mark(0, 0);
        x.mark(1, 1);
        due("mean of nothing", x.mean(0), NONE);
        x.tick(0);
        due("mean of still nothing", x.mean(0), NONE);
        x.tick(1);
        due("mean of one TICK", x.mean(0), 2000);
        x.tick(2);
        due("mean", x.mean(0), 2000);
        due("mean of an empty POOL", x.mean(1), NONE);
        due("mean(2)", x.mean(2), BAD);
        due("mean(8)", x.mean(8), BAD);
        for (int wrong : OUTSIDE) {
            due("mean wrong", x.mean(wrong), BAD);
        }
        ExactCurves y = pooled(PRODUCT, 0, 5000, 1);
        y.mark(3, 0);
        y.tick(5);
        due("mean of a TALLY that stays", y.mean(3), 0);
        ExactCurves z = pooled(PRODUCT, 0, 1, MOST / 2);
        z.tick(100);
        z.mark(3, 0);
        z.tick(300);
        // 1.5 10^19 is above 2^63 and below 2^64: the mean must not take it for less than 0.
        due("mean without sign", z.mean(3), 50000000000000000L);
        z.tick(100);
        // 2 10^19 runs over: 2 10^19 - 2^64 by 400.
        due("mean of what ran over", z.mean(3), 1553255926290448384L / 400);
    }

    private static void batch() {
        ExactCurves x = rich(1000);
        due("order before batch()", x.order(0, SELL, 1, 1), 0);
        due("a is 0 at first", x.balance(0, 0), 999);
        due("batch with ORDERS", x.batch(2, 3), REFUSED);
        due("wrong batch with ORDERS", x.batch(2, 2), BAD);
        x.clear();
        due("batch", x.batch(2, 3), 1);
        due("batch of the same", x.batch(2, 3), 1);
        for (int wrong : OUTSIDE) {
            due("batch wrong a", x.batch(wrong, 0), BAD);
            due("batch wrong b", x.batch(0, wrong), BAD);
        }
        due("batch token 4", x.batch(0, 4), BAD);
        due("batch alike", x.batch(1, 1), BAD);
        x.order(0, SELL, 5, 1000);
        due("a is 2", x.balance(0, 2), 995);
        x.order(0, BUY, 5, 1000);
        due("b is 3", x.balance(0, 3), 995);
    }

    private static void order() {
        ExactCurves x = rich(10000000000L);
        for (int wrong : OUTSIDE) {
            due("order wrong player", x.order(wrong, BUY, 1, 1), BAD);
            due("order wrong buy", x.order(0, wrong, 1, 1), BAD);
        }
        due("order player 6", x.order(6, BUY, 1, 1), BAD);
        due("order buy 2", x.order(0, 2, 1, 1), BAD);
        for (long wrong : BELOW_ONE) {
            due("order wrong q", x.order(0, BUY, wrong, 1), BAD);
            due("order wrong l", x.order(0, BUY, 1, wrong), BAD);
        }
        due("order q above", x.order(0, SELL, 10000000001L, 1), BAD);
        due("order l above", x.order(0, SELL, 1, 1000001), BAD);
        due("order far above", x.order(0, SELL, Long.MAX_VALUE, Long.MAX_VALUE), BAD);
        due("order to sell the most", x.order(0, SELL, 10000000000L, 1000000), 0);
        due("order to sell without a BALANCE", x.order(0, SELL, 1, 1), REFUSED);
        due("order to buy without a BALANCE", x.order(0, BUY, 10000000000L, 1001), REFUSED);
        due("order to buy for all", x.order(0, BUY, 10000000000L, 1000), 1);
        balances(x, 0, 0, 0);
        due("order by who has nothing", x.order(5, SELL, 1, 1), REFUSED);
        // 7 143 // 1000 = 2.
        due("order, what is given rounded up", x.order(1, BUY, 7, 143), 2);
        balances(x, 1, 10000000000L, 9999999998L);
        for (int i = 3; i < 40; i++) {
            due("order " + i, x.order(1, SELL, 1, 999999), i);
        }
        due("order 40", x.order(1, SELL, 1, 999999), REFUSED);
        due("wrong order 40", x.order(1, SELL, 0, 999999), BAD);
        due("count", x.count(1), 40);
        x.clear();
        due("order anew", x.order(1, SELL, 1, 999999), 0);
        ExactCurves y = new ExactCurves();
        y.mint(0, 1, MOST);
        due("order that gives 10^13", y.order(0, BUY, 10000000000L, 1000000), 0);
        due("BALANCE", y.balance(0, 1), MOST - 10000000000000L);
    }

    private static void clear() {
        ExactCurves x = rich(1000);
        due("clear without ORDERS", x.clear(), 0);
        x.order(0, SELL, 10, 1001);
        x.order(1, BUY, 7, 1000);
        due("clear without a deal", x.clear(), 0);
        balances(x, 0, 1000, 1000);
        balances(x, 1, 1000, 1000);
        due("count after clear", x.count(1), 0);
        x.order(0, BUY, 9, 1000);
        due("clear with one SIDE", x.clear(), 0);
        balances(x, 0, 1000, 1000);
        x.order(0, SELL, 10, 700);
        x.order(1, BUY, 7, 1500);
        // At 700: 7 against 10. At 1500: the same. The least: 700.
        due("clear", x.clear(), 700);
        // The buyer pays 7 700 // 1000 = 5 of 11; the seller gets 4.
        balances(x, 0, 993, 1004);
        balances(x, 1, 1007, 995);
        due("house", x.house(1), 1);
        due("clear again", x.clear(), 0);
        due("house again", x.house(1), 1);
        x.order(2, SELL, 1, 1);
        x.order(0, SELL, 5, 500);
        x.order(0, BUY, 5, 500);
        due("clear with oneself", x.clear(), 500);
        // Pays 3, gets 2.
        balances(x, 0, 993, 1003);
        due("house", x.house(1), 2);
    }

    private static void clearChoosesPrice() {
        ExactCurves x = rich(1000);
        x.order(0, SELL, 10, 100);
        x.order(0, SELL, 5, 200);
        x.order(1, BUY, 10, 300);
        x.order(1, BUY, 1, 100);
        // 100: 11 against 10; 200 and 300: 10 against 15. All deal 10, 100 is the nearest.
        due("the nearest", x.clear(), 100);
        x.order(0, SELL, 10, 100);
        x.order(0, SELL, 5, 250);
        x.order(1, BUY, 15, 300);
        x.order(1, BUY, 10, 90);
        // 90: 25 against 0; 100: 15 against 10; 250 and 300: 15 against 15.
        due("the most", x.clear(), 250);
        x.order(0, SELL, 10, 100);
        x.order(1, BUY, 5, 150);
        x.order(1, BUY, 10, 300);
        // 100 and 150: 15 against 10; 300: 10 against 10. All deal 10.
        due("the nearest, though not the least", x.clear(), 300);
        x.order(1, BUY, 10, 300);
        x.order(0, SELL, 10, 300);
        x.order(1, BUY, 5, 150);
        x.order(0, SELL, 5, 400);
        // 150: 15 against 0; 300: 10 against 10; 400: 0 against 15.
        due("the only one", x.clear(), 300);
        x.order(0, SELL, 1, 1);
        x.order(1, BUY, 1, 1);
        due("one at the least LIMIT", x.clear(), 1);
        due("one is dealt", x.dealt(0), 1);
        x.order(1, BUY, 4, 900);
        x.order(1, BUY, 4, 800);
        x.order(0, SELL, 4, 400);
        x.order(0, SELL, 4, 300);
        // 300: 8 against 4; 400 to 800: 8 against 8; 900: 4 against 8.
        due("the least", x.clear(), 400);
        x.order(0, SELL, 4, 600);
        x.order(1, BUY, 8, 700);
        x.order(0, SELL, 8, 690);
        x.order(1, BUY, 4, 690);
        // 600: 12 against 4; 690: 12 against 12; 700: 8 against 12.
        due("in between", x.clear(), 690);
    }

    private static void clearGoesByLimits() {
        ExactCurves x = rich(1000);
        x.order(0, BUY, 5, 500);
        x.order(1, BUY, 5, 900);
        x.order(0, BUY, 5, 500);
        x.order(1, BUY, 5, 600);
        x.order(0, SELL, 12, 500);
        due("price", x.clear(), 500);
        long[] buyers = {2, 5, 0, 5, 12};
        for (int i = 0; i < 5; i++) {
            due("dealt of ORDER " + i, x.dealt(2 + i), buyers[i]);
        }
        // 0 gave 3 + 3 for a, gets 2 for 1; sells 12 for 6. 1 gave 5 + 3, gets 10 for 3 + 3.
        balances(x, 0, 1000 - 12 + 2, 1000 - 1 + 6);
        balances(x, 1, 1010, 994);
        due("house", x.house(1), 1);
        x.order(0, SELL, 5, 500);
        x.order(1, SELL, 5, 200);
        x.order(0, SELL, 5, 500);
        x.order(1, SELL, 5, 400);
        x.order(0, BUY, 17, 500);
        due("price", x.clear(), 500);
        long[] sellers = {5, 5, 2, 5, 17};
        for (int i = 0; i < 5; i++) {
            due("dealt of ORDER " + i, x.dealt(2 + i), sellers[i]);
        }
    }

    private static void dealt() {
        ExactCurves x = rich(1000);
        due("dealt(0) before", x.dealt(0), 0);
        due("dealt(1) before", x.dealt(1), 0);
        due("dealt(2) before", x.dealt(2), BAD);
        x.order(0, SELL, 10, 100);
        x.order(1, BUY, 4, 100);
        due("dealt(1) before clear", x.dealt(1), 0);
        due("dealt(2) before clear", x.dealt(2), BAD);
        x.clear();
        due("dealt(0)", x.dealt(0), 4);
        due("dealt(1)", x.dealt(1), 2);
        due("dealt(2)", x.dealt(2), 4);
        due("dealt(3)", x.dealt(3), 4);
        due("dealt(4)", x.dealt(4), BAD);
        for (int wrong : OUTSIDE) {
            due("dealt wrong", x.dealt(wrong), BAD);
        }
        x.order(0, SELL, 9, 100);
        x.batch(1, 0);
        due("dealt(2) of the latest clear", x.dealt(2), 4);
        x.clear();
        due("dealt(0) of nothing", x.dealt(0), 0);
        due("dealt(1) of one", x.dealt(1), 1);
        due("dealt(2) of one", x.dealt(2), 0);
        due("dealt(3) of one", x.dealt(3), BAD);
        x.clear();
        due("dealt(1) of none", x.dealt(1), 0);
        due("dealt(2) of none", x.dealt(2), BAD);
    }

    private static void rate() {
        ExactCurves x = new ExactCurves();
        due("rate", x.rate(3, 1000000), 0);
        due("rate answers what it was", x.rate(3, 5), 1000000);
        due("rate of another", x.rate(2, 0), 0);
        due("vault(3, 4)", x.vault(3, 4), 5);
        for (int wrong : OUTSIDE) {
            due("rate wrong", x.rate(wrong, 1), BAD);
        }
        due("rate(4)", x.rate(4, 1), BAD);
        due("rate below 0", x.rate(3, -1), BAD);
        due("rate above", x.rate(3, 1000001), BAD);
        due("rate far above", x.rate(3, 4294967296L), BAD);
        due("rate stays", x.rate(3, 0), 5);
        x.rate(3, 1);
        x.tick(1000);
        due("INDEX at the least RATE", x.vault(3, 3), 1000001000);
    }

    /** PLAYER 0 has lent 1000 of TOKEN 1, 600 of which PLAYER 1 has borrowed; INDEX is 1.5 and a bit. */
    private static ExactCurves lent() {
        ExactCurves x = rich(WEALTH);
        x.pool(0, 1, PRODUCT, 0);
        x.join(0, 0, 100000, 200000);
        x.lend(0, 1, 1000);
        x.rate(1, 1000000);
        due("loan for lent()", x.loan(1, 0, 0, 500, 600), 0);
        x.tick(406);
        x.rate(1, 0);
        due("INDEX of lent()", x.vault(1, 3), 1500497880);
        due("DEBT of lent()", x.ofLoan(0, 5), 901);
        return x;
    }

    private static void lend() {
        ExactCurves x = lent();
        for (int wrong : OUTSIDE) {
            due("lend wrong player", x.lend(wrong, 1, 1), BAD);
            due("lend wrong token", x.lend(0, wrong, 1), BAD);
        }
        due("lend player 6", x.lend(6, 1, 1), BAD);
        due("lend token 4", x.lend(0, 4, 1), BAD);
        for (long wrong : BELOW_ONE) {
            due("lend wrong amount", x.lend(0, 1, wrong), BAD);
        }
        due("lend without a BALANCE", x.lend(2, 1, 1), REFUSED);
        due("lend far above the BALANCE", x.lend(0, 1, Long.MAX_VALUE), REFUSED);
        // WORTH is 400 + 901.
        due("lend for nothing", x.lend(1, 1, 1), REFUSED);
        due("lend", x.lend(1, 1, 14), 10);
        due("what the VAULT has", x.vault(1, 0), 414);
        due("WORTH", x.vault(1, 1), 1315);
        due("PARTS", x.vault(1, 2), 1010);
        due("PARTS of 1", x.vault(1, 6), 10);
        due("BALANCE", x.balance(1, 1), WEALTH + 600 - 14);
        due("lend at first", x.lend(1, 3, WEALTH), WEALTH);
        due("lend after that", x.lend(0, 3, WEALTH), WEALTH);
        due("redeem all", x.redeem(1, 3, WEALTH), WEALTH);
        due("redeem all", x.redeem(0, 3, WEALTH), WEALTH);
        due("lend at first again", x.lend(0, 3, 3), 3);
    }

    private static void redeem() {
        ExactCurves x = lent();
        for (int wrong : OUTSIDE) {
            due("redeem wrong player", x.redeem(wrong, 1, 1), BAD);
            due("redeem wrong token", x.redeem(0, wrong, 1), BAD);
        }
        due("redeem player 6", x.redeem(6, 1, 1), BAD);
        due("redeem token 4", x.redeem(0, 4, 1), BAD);
        for (long wrong : BELOW_ONE) {
            due("redeem wrong n", x.redeem(0, 1, wrong), BAD);
        }
        due("redeem more", x.redeem(0, 1, 1001), REFUSED);
        due("redeem far more", x.redeem(0, 1, Long.MAX_VALUE), REFUSED);
        due("redeem without PARTS", x.redeem(1, 1, 1), REFUSED);
        // 308 1301 / 1000 = 400.7: the VAULT has 400; 309: 402.009.
        due("redeem more than it has", x.redeem(0, 1, 309), REFUSED);
        due("vault(1, 0) after that", x.vault(1, 0), 400);
        due("redeem all it has", x.redeem(0, 1, 308), 400);
        due("vault(1, 0)", x.vault(1, 0), 0);
        due("vault(1, 1)", x.vault(1, 1), 901);
        due("vault(1, 2)", x.vault(1, 2), 692);
        due("vault(1, 5)", x.vault(1, 5), 692);
        due("balance(0, 1)", x.balance(0, 1), WEALTH - 200000 - 1000 + 400);
        due("redeem from nothing", x.redeem(0, 1, 1), REFUSED);
        x.lend(1, 3, 5);
        due("redeem one", x.redeem(1, 3, 1), 1);
        due("redeem the rest", x.redeem(1, 3, 4), 4);
        due("redeem of another TOKEN", x.redeem(0, 2, 1), REFUSED);
    }

    private static void vault() {
        ExactCurves x = lent();
        long[] want = {400, 1301, 1000, 1500497880, 0, 1000, 0, 0, 0, 0, 0};
        for (int what = 0; what < 11; what++) {
            due("vault(1, " + what + ")", x.vault(1, what), want[what]);
        }
        due("vault(1, 11)", x.vault(1, 11), BAD);
        due("vault(4, 0)", x.vault(4, 0), BAD);
        due("vault(4, 1)", x.vault(4, 1), BAD);
        for (int wrong : OUTSIDE) {
            due("vault wrong token", x.vault(wrong, 0), BAD);
            due("vault wrong what", x.vault(0, wrong), BAD);
        }
        due("WORTH of another TOKEN", x.vault(0, 1), 0);
        x.lend(0, 0, 50);
        due("a LOAN the other way round", x.loan(0, 0, 1, 1000, 50), 1);
        due("WORTH of TOKEN 0", x.vault(0, 1), 50);
        due("WORTH of TOKEN 1 stays", x.vault(1, 1), 1301);
        x.loan(0, 0, 0, 1000, 1);
        // UNITS 1, so DEBT 2.
        due("WORTH with two DEBTS", x.vault(1, 1), 399 + 901 + 2);
    }

    private static void loan() {
        ExactCurves x = pooled(PRODUCT, 0, 1000, 2000);
        for (int wrong : OUTSIDE) {
            due("loan wrong player", x.loan(wrong, 0, 0, 1, 1), BAD);
            due("loan wrong pool", x.loan(1, wrong, 0, 1, 1), BAD);
            due("loan wrong side", x.loan(1, 0, wrong, 1, 1), BAD);
        }
        due("loan player 6", x.loan(6, 0, 0, 1, 1), BAD);
        due("loan pool 1", x.loan(1, 1, 0, 1, 1), BAD);
        due("loan side 2", x.loan(1, 0, 2, 1, 1), BAD);
        for (long wrong : BELOW_ONE) {
            due("loan wrong c", x.loan(1, 0, 0, wrong, 1), BAD);
            due("loan wrong d", x.loan(1, 0, 0, 1, wrong), BAD);
        }
        due("loan from an empty VAULT", x.loan(1, 0, 0, 100, 1), REFUSED);
        x.lend(0, 1, 500);
        due("loan above the BALANCE", x.loan(1, 0, 0, MOST / 2 + 1, 1), REFUSED);
        due("loan far above the BALANCE", x.loan(1, 0, 0, Long.MAX_VALUE, 1), REFUSED);
        due("loan above the VAULT", x.loan(1, 0, 0, 10000, 501), REFUSED);
        due("loan far above the VAULT", x.loan(1, 0, 0, 10000, Long.MAX_VALUE), REFUSED);
        // VALUE(100) = 200: 120 at most.
        due("loan above its cover", x.loan(1, 0, 0, 100, 121), REFUSED);
        due("loan at its cover", x.loan(1, 0, 0, 100, 120), 0);
        balances(x, 1, MOST / 2 - 100, MOST / 2 + 120);
        due("VAULT", x.vault(1, 0), 380);
        due("loan of less than one", x.loan(1, 0, 0, 1, 2), REFUSED);
        due("second loan", x.loan(0, 0, 0, 1, 1), 1);
        x.lend(0, 0, 100);
        due("BALANCE of who took the second loan", x.balance(0, 1), MOST / 2 - 2000 - 500 + 1);
        // VALUE(3) of SIDE 1 is 1: 60 is below 100.
        due("loan of SIDE 1, cut off", x.loan(1, 0, 1, 3, 1), REFUSED);
        due("loan of SIDE 1", x.loan(1, 0, 1, 4, 1), 2);
        balances(x, 1, MOST / 2 - 100 + 1, MOST / 2 + 120 - 4);
        due("pay one back", x.pay(0, 1, 1), 1);
        due("loan with the least free number", x.loan(1, 0, 0, 1, 1), 1);
        for (int i = 3; i < 10; i++) {
            due("loan " + i, x.loan(1, 0, 0, 1, 1), i);
        }
        due("loan 10", x.loan(1, 0, 0, 1, 1), REFUSED);
        due("wrong loan 10", x.loan(1, 0, 0, 1, 0), BAD);
        x.pay(1, 5, 1);
        x.leave(0, 0, 1414);
        due("loan against an empty POOL", x.loan(1, 0, 0, 100, 1), REFUSED);
    }

    private static void loanByAnotherPool() {
        ExactCurves x = rich(WEALTH);
        x.pool(0, 1, PRODUCT, 0);
        x.pool(1, 2, SUM, 0);
        x.join(0, 1, 10, 20);
        x.lend(0, 1, 100);
        x.mint(2, 2, 7);
        // VALUE(7) = 3: 1 at most.
        due("loan above its cover", x.loan(2, 1, 1, 7, 2), REFUSED);
        due("loan with all that one has", x.loan(2, 1, 1, 7, 1), 0);
        long[] want = {2, 1, 1, 7, 1, 1, 3, 0};
        for (int what = 0; what < 8; what++) {
            due("ofLoan(0, " + what + ")", x.ofLoan(0, what), want[what]);
        }
        due("what was borrowed", x.balance(2, 1), 1);
        due("the COVER is away", x.balance(2, 2), 0);
        due("pay", x.pay(2, 0, 1), 1);
        due("the COVER is back", x.balance(2, 2), 7);
    }

    private static void loanOfGreatValue() {
        ExactCurves x = rich(MOST / 2);
        x.pool(0, 1, PRODUCT, 0);
        x.join(0, 0, 1, MOST / 2);
        x.lend(1, 1, MOST / 2);
        due("loan against a great VALUE", x.loan(1, 0, 0, MOST / 4, MOST / 2), 0);
        due("VALUE at its most", x.ofLoan(0, 6), 1000000000000000000L);
        due("covered", x.ofLoan(0, 7), 0);
        x.rate(1, 1000000);
        for (int i = 0; i < 7; i++) {
            x.tick(1000);
        }
        due("UNITS", x.ofLoan(0, 4), MOST / 2);
        due("DEBT", x.ofLoan(0, 5), 500 * MOST);
        due("still covered", x.ofLoan(0, 7), 0);
        due("WORTH", x.vault(1, 1), 500 * MOST);
        due("lend against a great WORTH", x.lend(1, 1, MOST / 2), MOST / 2000);
        due("redeem great PARTS", x.redeem(1, 1, MOST / 2000), MOST / 2);
        due("pay a part", x.pay(1, 0, 1), 1);
        due("UNITS of what is left", x.ofLoan(0, 4), MOST / 2);
    }

    private static void ofLoan() {
        ExactCurves x = lent();
        long[] want = {1, 0, 0, 500, 600, 901, 1000, 1};
        for (int what = 0; what < 8; what++) {
            due("ofLoan(0, " + what + ")", x.ofLoan(0, what), want[what]);
        }
        due("ofLoan(0, 8)", x.ofLoan(0, 8), BAD);
        due("ofLoan(1, 0)", x.ofLoan(1, 0), BAD);
        due("ofLoan(10, 0)", x.ofLoan(10, 0), BAD);
        for (int wrong : OUTSIDE) {
            due("ofLoan wrong loan", x.ofLoan(wrong, 0), BAD);
            due("ofLoan wrong what", x.ofLoan(0, wrong), BAD);
        }
        x.pay(1, 0, 100);
        // 801 left is 533.82 by INDEX: 534 UNITS, 801.27 by INDEX.
        due("UNITS after pay", x.ofLoan(0, 4), 534);
        due("DEBT after pay", x.ofLoan(0, 5), 802);
        // 80200 against 80000.
        due("UNCOVERED by little", x.ofLoan(0, 7), 1);
        x.pay(1, 0, 2);
        // 800 left is 533.16 by INDEX: 534 UNITS again.
        due("DEBT after pay of too little", x.ofLoan(0, 5), 802);
        x.pay(1, 0, 3);
        // 799 left is 532.49 by INDEX: 533 UNITS, 799.77 by INDEX; 80000 is not above 80000.
        due("UNITS", x.ofLoan(0, 4), 533);
        due("DEBT", x.ofLoan(0, 5), 800);
        due("just covered", x.ofLoan(0, 7), 0);
    }

    private static void pay() {
        ExactCurves x = lent();
        for (int wrong : OUTSIDE) {
            due("pay wrong player", x.pay(wrong, 0, 1), BAD);
            due("pay wrong loan", x.pay(0, wrong, 1), BAD);
        }
        due("pay player 6", x.pay(6, 0, 1), BAD);
        due("pay loan 1", x.pay(0, 1, 1), BAD);
        due("pay loan 10", x.pay(0, 10, 1), BAD);
        for (long wrong : BELOW_ONE) {
            due("pay wrong m", x.pay(0, 0, wrong), BAD);
        }
        due("pay without a BALANCE", x.pay(2, 0, 1), REFUSED);
        x.mint(2, 1, 900);
        due("pay one short", x.pay(2, 0, 901), REFUSED);
        due("pay far above, one short", x.pay(2, 0, Long.MAX_VALUE), REFUSED);
        due("pay a part", x.pay(2, 0, 900), 900);
        due("balance(2, 1)", x.balance(2, 1), 0);
        due("VAULT", x.vault(1, 0), 1300);
        // 1 10^9 // 1500497880 = 1 UNIT, again 2.
        due("UNITS", x.ofLoan(0, 4), 1);
        due("DEBT", x.ofLoan(0, 5), 2);
        long before = x.balance(1, 0);
        due("pay the rest for another", x.pay(0, 0, Long.MAX_VALUE), 2);
        due("the COVER is with who took it", x.balance(1, 0), before + 500);
        due("balance(0, 0)", x.balance(0, 0), WEALTH - 100000);
        due("VAULT", x.vault(1, 0), 1302);
        due("closed", x.ofLoan(0, 0), BAD);
        due("pay a closed one", x.pay(0, 0, 1), BAD);
        due("LOANS", x.count(2), 0);
    }

    private static void close() {
        ExactCurves x = rich(WEALTH);
        x.pool(0, 1, PRODUCT, 0);
        x.join(0, 0, 1000, 2000);
        x.lend(0, 1, 1000);
        due("loan", x.loan(1, 0, 0, 100, 120), 0);
        due("close a covered one", x.close(0, 0), REFUSED);
        for (int wrong : OUTSIDE) {
            due("close wrong player", x.close(wrong, 0), BAD);
            due("close wrong loan", x.close(0, wrong), BAD);
        }
        due("close player 6", x.close(6, 0), BAD);
        due("close loan 1", x.close(0, 1), BAD);
        due("close loan 10", x.close(0, 10), BAD);
        // 250 in: 400 out; VALUE(100) = 128, 120 is above 102.4.
        due("swap", x.swap(1, 0, 0, 250), 400);
        due("VALUE", x.ofLoan(0, 6), 128);
        due("UNCOVERED", x.ofLoan(0, 7), 1);
        due("close without a BALANCE", x.close(2, 0), REFUSED);
        x.mint(2, 1, 119);
        due("close one short", x.close(2, 0), REFUSED);
        x.mint(2, 1, 1);
        // 120 105 // 100 = 126: VALUE(98) = 125.44, VALUE(99) = 126.72.
        due("close", x.close(2, 0), 99);
        balances(x, 2, 99, 0);
        balances(x, 1, WEALTH - 100 - 250 + 1, WEALTH + 120 + 400);
        due("VAULT", x.vault(1, 0), 1000);
        due("closed", x.close(2, 0), BAD);
        due("LOANS", x.count(2), 0);
    }

    private static void closeEdges() {
        ExactCurves x = lent();
        long before = x.balance(1, 0);
        // 901 105 // 100 = 947: of 500, VALUE(474) = 948, VALUE(473) = 946.
        due("close by who took it", x.close(1, 0), 474);
        due("all of the COVER is back", x.balance(1, 0), before + 500);
        ExactCurves y = lent();
        y.rate(1, 1000000);
        y.tick(1000);
        before = y.balance(1, 0);
        due("close for all", y.close(0, 0), 500);
        due("who took it gets nothing", y.balance(1, 0), before);
        ExactCurves z = lent();
        z.leave(0, 0, z.of(0, 9));
        due("VALUE by an empty POOL", z.ofLoan(0, 6), 0);
        due("UNCOVERED by an empty POOL", z.ofLoan(0, 7), 1);
        due("close by an empty POOL", z.close(0, 0), 500);
        ExactCurves s = rich(1000);
        s.pool(0, 1, SUM, 0);
        s.join(0, 0, 100, 100);
        s.lend(0, 1, 100);
        due("loan by a SUM", s.loan(1, 0, 0, 50, 30), 0);
        due("swap all of SIDE 1 out", s.swap(0, 0, 0, 100), 100);
        due("close without the other RESERVE", s.close(0, 0), 50);
        due("swap all of SIDE 0 out", s.swap(0, 0, 1, 200), 200);
        due("swap one back", s.swap(0, 0, 0, 1), 1);
        due("loan by a SUM again", s.loan(1, 0, 0, 50, 60), 0);
        due("swap the one out", s.swap(0, 0, 1, 1), 1);
        due("VALUE without this RESERVE", s.ofLoan(0, 6), 0);
        due("close without this RESERVE", s.close(0, 0), 50);
        closeOfSideOne();
    }

    private static void closeOfSideOne() {
        ExactCurves x = rich(WEALTH);
        x.pool(0, 1, PRODUCT, 0);
        x.join(0, 0, 2000, 1000);
        x.lend(0, 0, 1000);
        due("loan of SIDE 1", x.loan(1, 0, 1, 100, 120), 0);
        due("swap", x.swap(1, 0, 1, 250), 400);
        // As in close(), the other way round.
        due("close of SIDE 1", x.close(0, 0), 99);
        balances(x, 0, WEALTH - 2000 - 1000 - 120, WEALTH - 1000 + 99);
        balances(x, 1, WEALTH + 120 + 400, WEALTH - 250 - 99);
    }

    private static void count() {
        ExactCurves x = rich(1000);
        x.pool(0, 1, PRODUCT, 0);
        x.pool(0, 1, SUM, 0);
        x.join(0, 0, 10, 10);
        x.lend(0, 1, 10);
        x.order(0, SELL, 1, 1);
        x.order(0, SELL, 1, 1);
        x.order(0, SELL, 1, 1);
        x.loan(1, 0, 0, 10, 1);
        x.tick(77);
        due("count(0)", x.count(0), 2);
        due("count(1)", x.count(1), 3);
        due("count(2)", x.count(2), 1);
        due("count(3)", x.count(3), 77);
        due("count(4)", x.count(4), BAD);
        for (int wrong : OUTSIDE) {
            due("count wrong", x.count(wrong), BAD);
        }
    }
}
