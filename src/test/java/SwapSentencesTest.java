/** Sentences on boundaries: promises 10 to 12, and "TO SWAP", "A FLASH". */
final class SwapSentencesTest extends Sentences {
    public static void main(String[] args) {
        runAll(SwapSentencesTest.class, 10, 12);
    }

    /** A POOL of TOKENS 0 and 1 without SHARES. */
    private static Run empty(int kind) {
        return both(rich(1000), x -> x.pool(0, 1, kind, 0));
    }

    // ---- Promise 10: "BAD: PLAYER, POOL, side, i below 1; REFUSED: also if the BALANCE is less than i"

    static void promise10SwapKnowsPlayers0To5() {
        Run all = x -> {
            for (int player = 0; player < 6; player++) {
                x.mint(player, 2, 100);
                x.mint(player, 3, 100);
            }
            x.pool(2, 3, SUM, 0);
            x.join(3, 0, 50, 50);
        };
        for (int player = 0; player < 6; player++) {
            ExactCurves x = after(all);
            long one = x.balance(player, 2);
            long two = x.balance(player, 3);
            due(x.swap(player, 0, 0, 7), 7);
            due(x.balance(player, 2), one - 7);
            due(x.balance(player, 3), two + 7);
        }
        badWith(NO_PLAYERS, all, (x, player) -> x.swap(player, 0, 0, 1));
        badWith(NO_PLAYERS, BUSY, (x, player) -> x.swap(player, 0, 0, 10));
    }

    static void promise10SwapKnowsThePoolsThereAre() {
        answers(BUSY, x -> x.swap(1, 1, 0, 100), 99);
        badWith(NO_POOLS_OF_2, BUSY, (x, pool) -> x.swap(1, pool, 0, 100));
    }

    static void promise10SwapKnowsSides0And1() {
        Run joined = pooled(SUM, 0, 100, 100);
        for (int side = 0; side < 2; side++) {
            ExactCurves x = after(joined);
            due(x.swap(1, 0, side, 10), 10);
            reserves(x, 0, side == 0 ? 110 : 90, side == 0 ? 90 : 110, 200);
        }
        badWith(NO_SIDES, joined, (x, side) -> x.swap(1, 0, side, 10));
        badWith(NO_SIDES, BUSY, (x, side) -> x.swap(1, 0, side, 10));
    }

    static void promise10SwapTakes1AndNotLess() {
        answers(pooled(SUM, 0, 100, 100), x -> x.swap(1, 0, 0, 1), 1);
        answers(pooled(PRODUCT, 0, 10, 100), x -> x.swap(1, 0, 0, 1), 9);
        badWith(BELOW_ONE, pooled(SUM, 0, 100, 100), (x, i) -> x.swap(1, 0, 0, i));
        badWith(BELOW_ONE, pooled(PRODUCT, 0, 10, 100), (x, i) -> x.swap(1, 0, 0, i));
        badWith(BELOW_ONE, BUSY, (x, i) -> x.swap(1, 0, 1, i));
    }

    static void promise10SwapNeedsABalanceOfI() {
        Run has = both(pooled(SUM, 0, 100, 100), x -> {
            x.lend(1, 0, MOST / 2 - 10);
            x.lend(1, 1, MOST / 2 - 20);
        });
        answers(has, x -> x.swap(1, 0, 0, 10), 10);
        refusedWith(new long[] {11, MOST, MOST + 1, Long.MAX_VALUE}, has, (x, i) -> x.swap(1, 0, 0, i));
        answers(has, x -> x.swap(1, 0, 1, 20), 20);
        refusedWith(new long[] {21, MOST, MOST + 1, Long.MAX_VALUE}, has, (x, i) -> x.swap(1, 0, 1, i));
        refused(has, x -> x.swap(2, 0, 0, 1));
        Run product = both(pooled(PRODUCT, 0, 100, 100), x -> x.lend(1, 0, MOST / 2 - 10));
        answers(product, x -> x.swap(1, 0, 0, 10), 9);
        refusedWith(new long[] {11, Long.MAX_VALUE}, product, (x, i) -> x.swap(1, 0, 0, i));
    }

    /** "i comes, o goes" */
    static void promise10SwapMovesIAndO() {
        ExactCurves x = after(pooled(PRODUCT, 100, 1000, 2000));
        // 2000 100 9900 / (10^7 + 990000) = 180.1.
        due(x.swap(1, 0, 0, 100), 180);
        reserves(x, 0, 1100, 1820, 1414);
        balances(x, 1, MOST / 2 - 100, MOST / 2 + 180);
        // 1100 100 9900 / (18200000 + 990000) = 56.7.
        due(x.swap(1, 0, 1, 100), 56);
        reserves(x, 0, 1044, 1920, 1414);
        balances(x, 1, MOST / 2 - 44, MOST / 2 + 80);
    }

    /** "o 0: refused", of a PRODUCT. */
    static void promise10SwapOfAProductForNothingIsRefused() {
        // 1000 / 1001 = 0.9; 2000 / 1002 = 1.9.
        Run joined = pooled(PRODUCT, 0, 1000, 1000);
        refused(joined, x -> x.swap(1, 0, 0, 1));
        refused(joined, x -> x.swap(1, 0, 1, 1));
        answers(joined, x -> x.swap(1, 0, 0, 2), 1);
        answers(joined, x -> x.swap(1, 0, 1, 2), 1);
        // 10 9000 / (90000 + 9000) = 0.90, with 9 of p; 10 10000 / (90000 + 10000) is 1 without a FEE.
        refused(pooled(PRODUCT, 1000, 9, 10), x -> x.swap(1, 0, 0, 1));
        answers(pooled(PRODUCT, 0, 9, 10), x -> x.swap(1, 0, 0, 1), 1);
        refused(pooled(PRODUCT, 1, 9, 10), x -> x.swap(1, 0, 0, 1));
    }

    /** "o 0: refused", of a SUM. */
    static void promise10SwapOfASumForNothingIsRefused() {
        answers(pooled(SUM, 0, 100, 100), x -> x.swap(1, 0, 0, 1), 1);
        refused(pooled(SUM, 1, 100, 100), x -> x.swap(1, 0, 0, 1));
        answers(pooled(SUM, 1, 100, 100), x -> x.swap(1, 0, 0, 2), 1);
        refused(pooled(SUM, 1000, 100, 100), x -> x.swap(1, 0, 1, 1));
        answers(pooled(SUM, 1000, 100, 100), x -> x.swap(1, 0, 1, 2), 1);
    }

    /** "SUM: o = i (10000 - f) / 10000, refused if that is above q" */
    static void promise10SwapOfASumAboveTheReserveIsRefused() {
        Run free = pooled(SUM, 0, 50, 90);
        answers(free, x -> x.swap(1, 0, 0, 90), 90);
        refused(free, x -> x.swap(1, 0, 0, 91));
        refused(free, x -> x.swap(1, 0, 0, MOST / 2));
        answers(free, x -> x.swap(1, 0, 1, 50), 50);
        refused(free, x -> x.swap(1, 0, 1, 51));
        // 11 9000 / 10000 = 9.9, which is 9 and not above it; 12: 10.8.
        Run dear = pooled(SUM, 1000, 50, 9);
        answers(dear, x -> x.swap(1, 0, 0, 10), 9);
        answers(dear, x -> x.swap(1, 0, 0, 11), 9);
        refused(dear, x -> x.swap(1, 0, 0, 12));
        ExactCurves x = after(dear);
        due(x.swap(1, 0, 0, 11), 9);
        reserves(x, 0, 61, 0, 59);
    }

    /** A SIDE whose RESERVE is 0 gives nothing, but takes. */
    static void promise10SwapOfASideWithoutReserve() {
        Run drained = both(pooled(SUM, 0, 50, 90), x -> x.swap(1, 0, 0, 90));
        refused(drained, x -> x.swap(1, 0, 0, 1));
        answers(drained, x -> x.swap(1, 0, 1, 1), 1);
        answers(drained, x -> x.swap(1, 0, 1, 140), 140);
        refused(drained, x -> x.swap(1, 0, 1, 141));
        Run other = both(pooled(SUM, 0, 50, 90), x -> x.swap(1, 0, 1, 50));
        refused(other, x -> x.swap(1, 0, 1, 1));
        answers(other, x -> x.swap(1, 0, 0, 140), 140);
    }

    static void promise10SwapOfAPoolWithoutSharesIsRefused() {
        for (int kind = 0; kind < 2; kind++) {
            for (int side = 0; side < 2; side++) {
                int at = side;
                refused(empty(kind), x -> x.swap(0, 0, at, 1));
                refused(empty(kind), x -> x.swap(0, 0, at, 1000));
                Run left = both(pooled(kind, 0, 4, 4), x -> x.leave(0, 0, x.of(0, 9)));
                refused(left, x -> x.swap(1, 0, at, 1));
                refused(left, x -> x.swap(1, 0, at, MOST / 2));
            }
        }
    }

    /** A PRODUCT never gives all that it has. */
    static void promise10SwapOfAProductNeverGivesTheWholeReserve() {
        refused(pooled(PRODUCT, 0, 1, 1), x -> x.swap(1, 0, 0, MOST / 2));
        answers(pooled(PRODUCT, 0, 1, 2), x -> x.swap(1, 0, 0, 1), 1);
        answers(pooled(PRODUCT, 0, 1, 2), x -> x.swap(1, 0, 0, MOST / 2), 1);
        answers(pooled(PRODUCT, 0, 1, MOST / 2), x -> x.swap(1, 0, 0, MOST / 2 - 1), MOST / 2 - 1);
    }

    /** The FEE of 0 and that of 1000 of 10000. */
    static void promise10SwapAtTheLeastAndTheMostFee() {
        answers(pooled(PRODUCT, 0, 1000, 1000), x -> x.swap(1, 0, 0, 1000), 500);
        // 1000 9 / 19 = 473.6.
        answers(pooled(PRODUCT, 1000, 1000, 1000), x -> x.swap(1, 0, 0, 1000), 473);
        // 1000 9999 / 19999 = 499.9.
        answers(pooled(PRODUCT, 1, 1000, 1000), x -> x.swap(1, 0, 0, 1000), 499);
        answers(pooled(SUM, 0, 1000, 1000), x -> x.swap(1, 0, 0, 1000), 1000);
        answers(pooled(SUM, 1000, 1000, 1000), x -> x.swap(1, 0, 0, 1000), 900);
        answers(pooled(SUM, 1, 1000, 1000), x -> x.swap(1, 0, 0, 1000), 999);
    }

    /** "in between nothing is rounded, however great it is" */
    static void promise10SwapOfGreatAmounts() {
        ExactCurves x = after(pooled(PRODUCT, 30, MOST / 2, MOST / 2));
        // 5 10^13 9970 / 19970 = 24962443665498.2.
        due(x.swap(1, 0, 0, MOST / 2), 24962443665498L);
        reserves(x, 0, MOST, MOST / 2 - 24962443665498L, MOST / 2);
        ExactCurves y = after(pooled(SUM, 1, MOST / 2, MOST / 2));
        due(y.swap(1, 0, 0, MOST / 2), 49995000000000L);
        due(after(pooled(SUM, 1, MOST / 2, MOST / 2)).swap(1, 0, 0, MOST / 2 - 1), 49994999999999L);
    }

    // ---- Promise 11: "REFUSED as there. BAD: POOL, side, i not 1 .. 10^14"

    static void promise11QuoteKnowsThePoolsThereAre() {
        answersAndChangesNothing(BUSY, x -> x.quote(1, 0, 100), 99);
        badWith(NO_POOLS_OF_2, BUSY, (x, pool) -> x.quote(pool, 0, 100));
    }

    static void promise11QuoteKnowsSides0And1() {
        Run joined = pooled(PRODUCT, 0, 10, 1000);
        answersAndChangesNothing(joined, x -> x.quote(0, 0, 10), 500);
        answersAndChangesNothing(joined, x -> x.quote(0, 1, 1000), 5);
        badWith(NO_SIDES, joined, (x, side) -> x.quote(0, side, 10));
    }

    static void promise11QuoteTakes1AndNotLess() {
        answersAndChangesNothing(pooled(SUM, 0, 9, 9), x -> x.quote(0, 0, 1), 1);
        badWith(BELOW_ONE, pooled(SUM, 0, 9, 9), (x, i) -> x.quote(0, 0, i));
        badWith(BELOW_ONE, pooled(PRODUCT, 0, 9, 9), (x, i) -> x.quote(0, 1, i));
    }

    static void promise11QuoteTakes10To14AndNotMore() {
        Run joined = pooled(PRODUCT, 0, MOST / 2, MOST / 2);
        // 5 10^13 10^14 / (15 10^13).
        answersAndChangesNothing(joined, x -> x.quote(0, 0, MOST), 33333333333333L);
        long[] wrong = {MOST + 1, 10 * MOST, Long.MAX_VALUE};
        badWith(wrong, joined, (x, i) -> x.quote(0, 0, i));
        badWith(wrong, pooled(SUM, 0, 9, 9), (x, i) -> x.quote(0, 1, i));
        badWith(wrong, empty(PRODUCT), (x, i) -> x.quote(0, 1, i));
        refused(empty(PRODUCT), x -> x.quote(0, 1, MOST));
        refused(pooled(SUM, 0, 9, 9), x -> x.quote(0, 1, MOST));
    }

    /** "BALANCES aside" */
    static void promise11QuoteLooksAtNoBalance() {
        Run all = x -> {
            x.mint(0, 0, MOST);
            x.mint(0, 1, MOST);
            x.pool(0, 1, PRODUCT, 30);
            x.join(0, 0, MOST, MOST);
        };
        // 10^14 9970 / 19970 = 49924887330996.4.
        answersAndChangesNothing(all, x -> x.quote(0, 0, MOST), 49924887330996L);
        answersAndChangesNothing(all, x -> x.quote(0, 1, MOST), 49924887330996L);
        refused(all, x -> x.swap(0, 0, 0, 1000));
    }

    static void promise11QuoteForNothingIsRefused() {
        Run product = pooled(PRODUCT, 0, 1000, 1000);
        refused(product, x -> x.quote(0, 0, 1));
        answersAndChangesNothing(product, x -> x.quote(0, 0, 2), 1);
        Run sum = pooled(SUM, 1000, 1000, 1000);
        refused(sum, x -> x.quote(0, 1, 1));
        answersAndChangesNothing(sum, x -> x.quote(0, 1, 2), 1);
    }

    static void promise11QuoteOfASumAboveTheReserveIsRefused() {
        Run sum = pooled(SUM, 1000, 50, 9);
        answersAndChangesNothing(sum, x -> x.quote(0, 0, 11), 9);
        refused(sum, x -> x.quote(0, 0, 12));
        answersAndChangesNothing(pooled(SUM, 0, 50, 9), x -> x.quote(0, 1, 50), 50);
        refused(pooled(SUM, 0, 50, 9), x -> x.quote(0, 1, 51));
    }

    static void promise11QuoteOfAPoolWithoutSharesIsRefused() {
        for (int kind = 0; kind < 2; kind++) {
            refused(empty(kind), x -> x.quote(0, 0, 1));
            refused(empty(kind), x -> x.quote(0, 1, 10));
        }
        Run drained = both(pooled(SUM, 0, 50, 90), x -> x.swap(1, 0, 0, 90));
        refused(drained, x -> x.quote(0, 0, 1));
        answersAndChangesNothing(drained, x -> x.quote(0, 1, 140), 140);
    }

    static void promise11QuoteIsWhatSwapGives() {
        Run joined = pooled(PRODUCT, 77, 12345, 678);
        for (long i = 1; i < 200; i += 7) {
            ExactCurves x = after(joined);
            long told = x.quote(0, 0, i);
            due(x.swap(1, 0, 0, i), told);
            ExactCurves y = after(joined);
            told = y.quote(0, 1, i);
            due(y.swap(1, 0, 1, i), told);
        }
    }

    // ---- Promise 12: "takes t, u, brings a, b .. (all 0 and more)"

    static void promise12FlashKnowsPlayers0To5() {
        Run joined = pooled(PRODUCT, 0, 10, 10);
        for (int i = 0; i < 6; i++) {
            int player = i;
            answers(joined, x -> x.flash(player, 0, 1, 1, 1, 1), 1);
        }
        badWith(NO_PLAYERS, joined, (x, player) -> x.flash(player, 0, 1, 1, 1, 1));
        badWith(NO_PLAYERS, BUSY, (x, player) -> x.flash(player, 0, 1, 0, 100, 0));
    }

    static void promise12FlashKnowsThePoolsThereAre() {
        answers(BUSY, x -> x.flash(0, 1, 1, 0, 100, 0), 1);
        badWith(NO_POOLS_OF_2, BUSY, (x, pool) -> x.flash(0, pool, 1, 0, 100, 0));
    }

    static void promise12FlashTakesAndBrings0AndNotLess() {
        Run joined = pooled(PRODUCT, 0, 10, 10);
        answers(joined, x -> x.flash(1, 0, 0, 1, 0, 1), 1);
        answers(joined, x -> x.flash(1, 0, 1, 0, 1, 0), 1);
        badWith(BELOW_ZERO, joined, (x, t) -> x.flash(1, 0, t, 1, 5, 5));
        badWith(BELOW_ZERO, joined, (x, u) -> x.flash(1, 0, 1, u, 5, 5));
        badWith(BELOW_ZERO, joined, (x, a) -> x.flash(1, 0, 1, 1, a, 50));
        badWith(BELOW_ZERO, joined, (x, b) -> x.flash(1, 0, 1, 1, 50, b));
        badWith(BELOW_ZERO, joined, (x, t) -> x.flash(1, 0, t, t, 0, 0));
        Run sum = pooled(SUM, 0, 10, 10);
        badWith(BELOW_ZERO, sum, (x, t) -> x.flash(1, 0, t, 1, 5, 5));
        badWith(BELOW_ZERO, sum, (x, a) -> x.flash(1, 0, 1, 1, a, 50));
        badWith(BELOW_ZERO, sum, (x, b) -> x.flash(1, 0, 1, 1, 50, b));
    }

    /** "t and u 0" */
    static void promise12FlashOfNothingIsBad() {
        for (int kind = 0; kind < 2; kind++) {
            Run joined = pooled(kind, 0, 10, 10);
            bad(joined, x -> x.flash(1, 0, 0, 0, 0, 0));
            bad(joined, x -> x.flash(1, 0, 0, 0, 1, 1));
            answers(joined, x -> x.flash(1, 0, 1, 0, 1, 0), 1);
            answers(joined, x -> x.flash(1, 0, 0, 1, 0, 1), 1);
        }
    }

    /** "above the RESERVES" */
    static void promise12FlashTakesUpToTheReserves() {
        for (int kind = 0; kind < 2; kind++) {
            Run joined = pooled(kind, 0, 10, 20);
            answers(joined, x -> x.flash(1, 0, 10, 0, 10, 0), 1);
            answers(joined, x -> x.flash(1, 0, 0, 20, 0, 20), 1);
            answers(joined, x -> x.flash(1, 0, 10, 20, 10, 20), 1);
            badWith(new long[] {11, 20, MOST, Long.MAX_VALUE}, joined, (x, t) -> x.flash(1, 0, t, 0, 1000, 0));
            badWith(new long[] {21, MOST, Long.MAX_VALUE}, joined, (x, u) -> x.flash(1, 0, 0, u, 0, 1000));
            bad(joined, x -> x.flash(1, 0, 11, 20, 1000, 1000));
            bad(joined, x -> x.flash(1, 0, 10, 21, 1000, 1000));
        }
    }

    static void promise12FlashOfAPoolWithoutSharesIsBad() {
        for (int kind = 0; kind < 2; kind++) {
            bad(empty(kind), x -> x.flash(0, 0, 1, 0, 1, 0));
            bad(empty(kind), x -> x.flash(0, 0, 0, 1, 0, 1));
            bad(empty(kind), x -> x.flash(0, 0, 0, 0, 1, 1));
        }
    }

    static void promise12FlashOfASideWithoutReserveIsBad() {
        Run drained = both(pooled(SUM, 0, 50, 90), x -> x.swap(1, 0, 0, 90));
        bad(drained, x -> x.flash(1, 0, 0, 1, 0, 1));
        bad(drained, x -> x.flash(1, 0, 1, 1, 1, 1));
        answers(drained, x -> x.flash(1, 0, 1, 0, 0, 1), 1);
        answers(drained, x -> x.flash(1, 0, 140, 0, 0, 140), 1);
        bad(drained, x -> x.flash(1, 0, 141, 0, 0, 141));
    }

    /** "REFUSED: also if the PLAYER has not as much as it brings (with what it took)" */
    static void promise12FlashBringsWhatOneHasAndTook() {
        Run has = both(pooled(PRODUCT, 0, 10, 10), x -> {
            x.lend(1, 0, MOST / 2 - 5);
            x.lend(1, 1, MOST / 2 - 7);
        });
        answers(has, x -> x.flash(1, 0, 3, 0, 8, 0), 1);
        refused(has, x -> x.flash(1, 0, 3, 0, 9, 0));
        answers(has, x -> x.flash(1, 0, 0, 3, 0, 10), 1);
        refused(has, x -> x.flash(1, 0, 0, 3, 0, 11));
        answers(has, x -> x.flash(1, 0, 3, 4, 8, 11), 1);
        refused(has, x -> x.flash(1, 0, 3, 4, 9, 11));
        refused(has, x -> x.flash(1, 0, 3, 4, 8, 12));
        refused(has, x -> x.flash(1, 0, 10, 10, Long.MAX_VALUE, 10));
        refused(has, x -> x.flash(1, 0, 10, 10, 10, Long.MAX_VALUE));
        refused(has, x -> x.flash(1, 0, 10, 10, Long.MAX_VALUE, Long.MAX_VALUE));
        ExactCurves x = after(has);
        due(x.flash(1, 0, 3, 4, 8, 11), 1);
        reserves(x, 0, 15, 17, 10);
        balances(x, 1, 0, 0);
    }

    /** One who has nothing may bring what was taken. */
    static void promise12FlashNeedsNoBalanceForWhatWasTaken() {
        for (int kind = 0; kind < 2; kind++) {
            Run joined = pooled(kind, 0, 10, 20);
            answersAndChangesNothing(joined, x -> x.flash(5, 0, 10, 20, 10, 20), 1);
            refused(joined, x -> x.flash(5, 0, 10, 20, 11, 20));
            refused(joined, x -> x.flash(5, 0, 10, 20, 10, 21));
        }
        // The other way round: what was taken of one SIDE does not help to bring the other one.
        refused(pooled(SUM, 0, 10, 20), x -> x.flash(5, 0, 10, 0, 0, 10));
        refused(pooled(SUM, 0, 10, 20), x -> x.flash(5, 0, 0, 10, 10, 0));
    }

    /** "(10000 x' - f a) (10000 y' - f b) must not be below 10^8 x y" */
    static void promise12FlashOfAProductMayBeEvenButNotBelow() {
        Run free = pooled(PRODUCT, 0, 100, 100);
        answers(free, x -> x.flash(1, 0, 50, 0, 50, 0), 1);
        refused(free, x -> x.flash(1, 0, 50, 0, 49, 0));
        // 50 200 is 100 100.
        answers(free, x -> x.flash(1, 0, 50, 0, 0, 100), 1);
        refused(free, x -> x.flash(1, 0, 50, 0, 0, 99));
        answers(free, x -> x.flash(1, 0, 0, 50, 100, 0), 1);
        refused(free, x -> x.flash(1, 0, 0, 50, 99, 0));
        refused(free, x -> x.flash(1, 0, 1, 0, 0, 0));
        refused(free, x -> x.flash(1, 0, 0, 1, 0, 0));
    }

    static void promise12FlashOfAProductCountsTheFeeOfWhatIsBrought() {
        // With a FEE of a tenth 10 that are brought count as 9.
        Run dear = pooled(PRODUCT, 1000, 100, 100);
        answers(dear, x -> x.flash(1, 0, 9, 0, 10, 0), 1);
        refused(dear, x -> x.flash(1, 0, 9, 0, 9, 0));
        answers(dear, x -> x.flash(1, 0, 0, 9, 0, 10), 1);
        refused(dear, x -> x.flash(1, 0, 0, 9, 0, 9));
        answers(dear, x -> x.flash(1, 0, 9, 9, 10, 10), 1);
        refused(dear, x -> x.flash(1, 0, 9, 9, 10, 9));
        refused(dear, x -> x.flash(1, 0, 9, 9, 9, 10));
        // 10: 11 count as 9.9, 12 as 10.8.
        refused(dear, x -> x.flash(1, 0, 10, 0, 11, 0));
        answers(dear, x -> x.flash(1, 0, 10, 0, 12, 0), 1);
        // 50 (100 + 0.9 b) against 10000: 111 bring 9995, 112 bring 10040.
        refused(dear, x -> x.flash(1, 0, 50, 0, 0, 111));
        answers(dear, x -> x.flash(1, 0, 50, 0, 0, 112), 1);
        // With the least FEE: one that is brought back for one is too few.
        refused(pooled(PRODUCT, 1, 100, 100), x -> x.flash(1, 0, 1, 0, 1, 0));
        answers(pooled(PRODUCT, 1, 100, 100), x -> x.flash(1, 0, 1, 0, 2, 0), 1);
    }

    /** A factor may be 0, but then the product is below what it was, whatever is brought of the other SIDE. */
    static void promise12FlashOfAProductMayNotTakeAWholeSide() {
        Run free = pooled(PRODUCT, 0, 1, 1);
        refused(free, x -> x.flash(1, 0, 1, 0, 0, MOST / 2));
        refused(free, x -> x.flash(1, 0, 0, 1, MOST / 2, 0));
        refused(free, x -> x.flash(1, 0, 1, 1, 0, 0));
    }

    /** "SUM: 10000 (x' + y') - f (a + b) not below 10000 (x + y)" */
    static void promise12FlashOfASumMayBeEvenButNotBelow() {
        Run free = pooled(SUM, 0, 100, 50);
        answers(free, x -> x.flash(1, 0, 100, 0, 0, 100), 1);
        refused(free, x -> x.flash(1, 0, 100, 0, 0, 99));
        answers(free, x -> x.flash(1, 0, 100, 50, 150, 0), 1);
        refused(free, x -> x.flash(1, 0, 100, 50, 149, 0));
        answers(free, x -> x.flash(1, 0, 100, 50, 75, 75), 1);
        refused(free, x -> x.flash(1, 0, 100, 50, 75, 74));
        refused(free, x -> x.flash(1, 0, 1, 0, 0, 0));
    }

    static void promise12FlashOfASumCountsTheFeeOfWhatIsBrought() {
        Run dear = pooled(SUM, 1000, 100, 100);
        answers(dear, x -> x.flash(1, 0, 9, 0, 10, 0), 1);
        refused(dear, x -> x.flash(1, 0, 9, 0, 9, 0));
        answers(dear, x -> x.flash(1, 0, 9, 0, 0, 10), 1);
        refused(dear, x -> x.flash(1, 0, 9, 0, 0, 9));
        answers(dear, x -> x.flash(1, 0, 9, 9, 10, 10), 1);
        answers(dear, x -> x.flash(1, 0, 9, 9, 20, 0), 1);
        answers(dear, x -> x.flash(1, 0, 9, 9, 0, 20), 1);
        refused(dear, x -> x.flash(1, 0, 9, 9, 19, 0));
        refused(dear, x -> x.flash(1, 0, 9, 9, 10, 9));
        refused(pooled(SUM, 1, 100, 100), x -> x.flash(1, 0, 1, 0, 1, 0));
        answers(pooled(SUM, 1, 100, 100), x -> x.flash(1, 0, 1, 0, 2, 0), 1);
    }

    /** "x', y' the RESERVES then, which must be 0 and more": a SUM may be left with none of a SIDE. */
    static void promise12FlashOfASumMayTakeAWholeSide() {
        ExactCurves x = after(pooled(SUM, 0, 100, 50));
        due(x.flash(1, 0, 100, 0, 0, 100), 1);
        reserves(x, 0, 0, 150, 150);
        balances(x, 1, MOST / 2 + 100, MOST / 2 - 100);
        due(x.flash(1, 0, 0, 150, 150, 0), 1);
        reserves(x, 0, 150, 0, 150);
        balances(x, 1, MOST / 2 - 50, MOST / 2 + 50);
    }

    static void promise12FlashMovesWhatIsTold() {
        ExactCurves x = after(pooled(PRODUCT, 0, 100, 100));
        due(x.flash(1, 0, 20, 30, 45, 60), 1);
        reserves(x, 0, 125, 130, 100);
        balances(x, 1, MOST / 2 - 25, MOST / 2 - 30);
        due(x.of(0, 9), 100);
    }

    /** Products up to 10^36 are compared without being rounded. */
    static void promise12FlashOfGreatAmounts() {
        Run great = x -> {
            x.mint(0, 0, MOST);
            x.mint(0, 1, MOST);
            x.pool(0, 1, PRODUCT, 0);
            x.join(0, 0, MOST - 1, MOST - 1);
        };
        // 10^14 (10^14 - 2) is one below (10^14 - 1) squared.
        refused(great, x -> x.flash(0, 0, 0, 1, 1, 0));
        refused(great, x -> x.flash(0, 0, 1, 0, 0, 1));
        answers(great, x -> x.flash(0, 0, 1, 1, 1, 1), 1);
        answers(great, x -> x.flash(0, 0, MOST - 1, MOST - 1, MOST, MOST), 1);
        Run sum = x -> {
            x.mint(0, 0, MOST);
            x.mint(0, 1, MOST);
            x.pool(0, 1, SUM, 1);
            x.join(0, 0, MOST - 1, MOST - 1);
        };
        // All of it brought again counts as 10^14 (1 - 0.0001), far below.
        refused(sum, x -> x.flash(0, 0, MOST - 1, MOST - 1, MOST, MOST));
        answers(sum, x -> x.flash(0, 0, 1, 0, 1, 1), 1);
        refused(sum, x -> x.flash(0, 0, 1, 1, 1, 1));
    }
}
