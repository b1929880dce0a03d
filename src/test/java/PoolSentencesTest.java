/** Sentences on boundaries: promises 6 to 9, and "TO JOIN", "TO LEAVE". */
final class PoolSentencesTest extends Sentences {
    public static void main(String[] args) {
        runAll(PoolSentencesTest.class, 6, 9);
    }

    /** A SUM of TOKENS 0 and 1 without FEE, with 30 on SIDE 0, none on SIDE 1, and 30 SHARES of PLAYER 0. */
    private static final Run NONE_OF_SIDE_1 = both(pooled(SUM, 0, 10, 20), x -> x.swap(0, 0, 0, 20));

    /** The same the other way round. */
    private static final Run NONE_OF_SIDE_0 = both(pooled(SUM, 0, 20, 10), x -> x.swap(0, 0, 1, 20));

    /** A POOL without SHARES, and PLAYERS with 10 of every TOKEN. */
    private static final Run EMPTY = both(rich(10), x -> x.pool(0, 1, PRODUCT, 0));

    // ---- Promise 6: "BAD: a TOKEN, alike ones, kind, fee; there are 6"

    static void promise06PoolKnowsTokens0To3() {
        answers(NOTHING, x -> x.pool(0, 3, PRODUCT, 0), 0);
        answers(NOTHING, x -> x.pool(3, 0, PRODUCT, 0), 0);
        badWith(NO_TOKENS, BUSY, (x, token) -> x.pool(token, 1, PRODUCT, 0));
        badWith(NO_TOKENS, BUSY, (x, token) -> x.pool(1, token, PRODUCT, 0));
        badWith(NO_TOKENS, BUSY, (x, token) -> x.pool(token, token, PRODUCT, 0));
    }

    static void promise06PoolIsOfUnlikeTokens() {
        for (int one = 0; one < 4; one++) {
            for (int two = 0; two < 4; two++) {
                int a = one;
                int b = two;
                if (a == b) {
                    bad(NOTHING, x -> x.pool(a, b, PRODUCT, 0));
                    bad(BUSY, x -> x.pool(a, b, SUM, 1000));
                } else {
                    answers(BUSY, x -> x.pool(a, b, SUM, 1000), 2);
                }
            }
        }
    }

    static void promise06PoolIsOfKind0Or1() {
        answers(NOTHING, x -> x.pool(0, 1, 0, 0), 0);
        answers(NOTHING, x -> x.pool(0, 1, 1, 0), 0);
        int[] wrong = {-1, 2, Integer.MIN_VALUE, Integer.MAX_VALUE};
        badWith(wrong, BUSY, (x, kind) -> x.pool(0, 1, kind, 0));
    }

    static void promise06PoolHasAFeeOf0To1000() {
        for (int fee : new int[] {0, 1, 999, 1000}) {
            ExactCurves x = new ExactCurves();
            due(x.pool(0, 1, SUM, fee), 0);
            due(x.of(0, 6), fee);
        }
        int[] wrong = {-1, 1001, 10000, Integer.MIN_VALUE, Integer.MAX_VALUE};
        badWith(wrong, BUSY, (x, fee) -> x.pool(0, 1, PRODUCT, fee));
        badWith(wrong, BUSY, (x, fee) -> x.pool(0, 1, SUM, fee));
    }

    static void promise06PoolNumbersAre0To5() {
        ExactCurves x = new ExactCurves();
        for (int pool = 0; pool < 6; pool++) {
            due(x.of(pool, 0), BAD);
            due(x.pool(pool % 2, 2 + pool % 2, pool % 2, pool), pool);
            due(x.of(pool, 6), pool);
            due(x.count(0), pool + 1);
        }
    }

    static void promise06PoolSeventhIsBad() {
        Run six = x -> {
            for (int pool = 0; pool < 6; pool++) {
                x.pool(0, 1, PRODUCT, pool);
            }
        };
        bad(six, x -> x.pool(0, 1, PRODUCT, 0));
        bad(six, x -> x.pool(2, 3, SUM, 1000));
        due(after(six).count(0), 6);
    }

    static void promise06PoolThatIsBadTakesNoNumber() {
        ExactCurves x = new ExactCurves();
        due(x.pool(0, 0, PRODUCT, 0), BAD);
        due(x.pool(0, 1, 2, 0), BAD);
        due(x.pool(0, 1, 0, 1001), BAD);
        due(x.pool(0, 1, PRODUCT, 0), 0);
        due(x.pool(0, 4, PRODUCT, 0), BAD);
        due(x.pool(0, 1, PRODUCT, 0), 1);
    }

    static void promise06PoolOfTheSameTokensMayBeMadeAgain() {
        ExactCurves x = after(rich(100));
        x.pool(0, 1, PRODUCT, 0);
        due(x.pool(0, 1, PRODUCT, 0), 1);
        due(x.pool(1, 0, PRODUCT, 0), 2);
        x.join(0, 1, 10, 40);
        reserves(x, 0, 0, 0, 0);
        reserves(x, 1, 10, 40, 20);
        reserves(x, 2, 0, 0, 0);
    }

    static void promise06PoolIsEmptyAtFirst() {
        ExactCurves x = after(both(BUSY, y -> y.pool(3, 0, SUM, 5)));
        long[] want = {0, 0, 0, 0, 0, SUM, 5, 3, 0, 0, 0, 0, 0, 0, 0};
        for (int what = 0; what < 15; what++) {
            due(x.of(2, what), want[what]);
        }
    }

    // ---- Promise 7: "what = 0, 1 RESERVES .. 9 + player its SHARES. BAD."

    static void promise07OfKnowsWhat0To14() {
        Run told = both(rich(1000), x -> {
            x.pool(2, 1, SUM, 40);
            x.join(1, 0, 10, 30);
            x.mint(5, 2, 10);
            x.mint(5, 1, 30);
            x.join(5, 0, 5, 15);
            x.tick(3);
        });
        long[] want = {15, 45, 60, 9000, 3, SUM, 40, 2, 1, 0, 40, 0, 0, 0, 20};
        for (int i = 0; i < 15; i++) {
            int what = i;
            answersAndChangesNothing(told, x -> x.of(0, what), want[what]);
        }
        int[] wrong = {-1, 15, Integer.MIN_VALUE, Integer.MAX_VALUE};
        badWith(wrong, told, (x, what) -> x.of(0, what));
        badWith(wrong, BUSY, (x, what) -> x.of(1, what));
    }

    static void promise07OfKnowsThePoolsThereAre() {
        answersAndChangesNothing(BUSY, x -> x.of(1, 7), 2);
        for (int i = 0; i < 15; i++) {
            int what = i;
            badWith(NO_POOLS_OF_2, BUSY, (x, pool) -> x.of(pool, what));
        }
        ExactCurves six = new ExactCurves();
        for (int pool = 0; pool < 6; pool++) {
            six.pool(0, 1, PRODUCT, 100 + pool);
        }
        due(six.of(5, 6), 105);
        due(six.of(6, 6), BAD);
    }

    /** "64 bits, running over": of() tells the TALLY as the 64 bits that it is. */
    static void promise07OfTellsATallyThatRanOver() {
        Run steep = steepest();
        answersAndChangesNothing(both(steep, x -> x.tick(92)), x -> x.of(0, 3), 9200000000000000000L);
        answersAndChangesNothing(both(steep, x -> x.tick(93)), x -> x.of(0, 3), -9146744073709551616L);
        answersAndChangesNothing(both(steep, x -> x.tick(184)), x -> x.of(0, 3), -46744073709551616L);
        answersAndChangesNothing(both(steep, x -> x.tick(185)), x -> x.of(0, 3), 53255926290448384L);
    }

    /** A POOL of 1 and 10^14: each TICK adds 10^17. */
    private static Run steepest() {
        return x -> {
            x.mint(0, 0, 1);
            x.mint(0, 1, MOST);
            x.pool(0, 1, PRODUCT, 0);
            x.join(0, 0, 1, MOST);
        };
    }

    static void promise07OfHolds10To14OfEachSide() {
        Run full = x -> {
            x.mint(5, 0, MOST);
            x.mint(5, 1, MOST);
            x.pool(0, 1, SUM, 0);
            x.join(5, 0, MOST, MOST);
        };
        answersAndChangesNothing(full, x -> x.of(0, 0), MOST);
        answersAndChangesNothing(full, x -> x.of(0, 1), MOST);
        answersAndChangesNothing(full, x -> x.of(0, 2), 2 * MOST);
        answersAndChangesNothing(full, x -> x.of(0, 14), 2 * MOST);
        answersAndChangesNothing(full, x -> x.of(0, 9), 0);
    }

    // ---- Promise 8: "BAD: PLAYER, POOL, u, v below 1; REFUSED: also if the BALANCES are less than u, v"

    static void promise08JoinKnowsPlayers0To5() {
        Run all = x -> {
            for (int player = 0; player < 6; player++) {
                x.mint(player, 0, 100);
                x.mint(player, 1, 100);
            }
            x.pool(0, 1, SUM, 0);
        };
        for (int i = 0; i < 6; i++) {
            int player = i;
            answers(all, x -> x.join(player, 0, 1, 1), 2);
            ExactCurves x = after(both(all, y -> y.join(player, 0, 1, 1)));
            for (int other = 0; other < 6; other++) {
                due(x.of(0, 9 + other), other == player ? 2 : 0);
            }
        }
        badWith(NO_PLAYERS, all, (x, player) -> x.join(player, 0, 1, 1));
        badWith(NO_PLAYERS, BUSY, (x, player) -> x.join(player, 0, 10, 10));
    }

    static void promise08JoinKnowsThePoolsThereAre() {
        answers(BUSY, x -> x.join(0, 1, 50, 50) > 0 ? 1 : 0, 1);
        badWith(NO_POOLS_OF_2, BUSY, (x, pool) -> x.join(0, pool, 50, 50));
    }

    static void promise08JoinTakes1OfEachSideAndNotLess() {
        answers(EMPTY, x -> x.join(0, 0, 1, 1), 1);
        badWith(BELOW_ONE, EMPTY, (x, u) -> x.join(0, 0, u, 1));
        badWith(BELOW_ONE, EMPTY, (x, v) -> x.join(0, 0, 1, v));
        badWith(BELOW_ONE, EMPTY, (x, each) -> x.join(0, 0, each, each));
        badWith(BELOW_ONE, BUSY, (x, u) -> x.join(0, 0, u, 1000));
        badWith(BELOW_ONE, BUSY, (x, v) -> x.join(0, 0, 1000, v));
    }

    /** A SIDE that asks for nothing must be brought 1 all the same. */
    static void promise08JoinTakes1OfASideWithoutReserve() {
        answers(NONE_OF_SIDE_1, x -> x.join(1, 0, 7, 1), 7);
        badWith(BELOW_ONE, NONE_OF_SIDE_1, (x, v) -> x.join(1, 0, 7, v));
        answers(NONE_OF_SIDE_0, x -> x.join(1, 0, 1, 7), 7);
        badWith(BELOW_ONE, NONE_OF_SIDE_0, (x, u) -> x.join(1, 0, u, 7));
    }

    static void promise08JoinNeedsABalanceOfU() {
        Run has = x -> {
            x.mint(2, 0, 10);
            x.mint(2, 1, 40);
            x.pool(0, 1, PRODUCT, 0);
        };
        answers(has, x -> x.join(2, 0, 10, 40), 20);
        refusedWith(new long[] {11, MOST + 1, Long.MAX_VALUE}, has, (x, u) -> x.join(2, 0, u, 40));
        refused(has, x -> x.join(3, 0, 1, 1));
    }

    static void promise08JoinNeedsABalanceOfV() {
        Run has = x -> {
            x.mint(2, 0, 10);
            x.mint(2, 1, 40);
            x.pool(0, 1, SUM, 0);
        };
        answers(has, x -> x.join(2, 0, 10, 40), 50);
        refusedWith(new long[] {41, MOST + 1, Long.MAX_VALUE}, has, (x, v) -> x.join(2, 0, 10, v));
    }

    /** "BALANCES .. less than u, v", even where less than u or v would come. */
    static void promise08JoinNeedsBalancesOfMoreThanComes() {
        Run has = both(pooled(PRODUCT, 0, 100, 100), x -> x.lend(1, 0, MOST / 2 - 50));
        answers(has, x -> x.join(1, 0, 50, 10), 10);
        refused(has, x -> x.join(1, 0, 51, 10));
        Run hasOther = both(pooled(PRODUCT, 0, 100, 100), x -> x.lend(1, 1, MOST / 2 - 50));
        answers(hasOther, x -> x.join(1, 0, 10, 50), 10);
        refused(hasOther, x -> x.join(1, 0, 10, 51));
        Run hasNoneOf1 = both(NONE_OF_SIDE_1, x -> x.lend(1, 1, MOST / 2));
        refused(hasNoneOf1, x -> x.join(1, 0, 7, 1));
        Run hasNoneOf0 = both(NONE_OF_SIDE_0, x -> x.lend(1, 0, MOST / 2));
        refused(hasNoneOf0, x -> x.join(1, 0, 1, 7));
    }

    /** "without SHARES: PRODUCT the whole root of u v, cut off; .. both come in whole" */
    static void promise08JoinAProductWithoutSharesIsTheRootCutOff() {
        long[][] rows = {
            {1, 1, 1}, {1, 2, 1}, {1, 3, 1}, {1, 4, 2}, {4, 1, 2}, {2, 2, 2}, {8, 1, 2}, {9, 1, 3}, {3, 5, 3},
            {4, 4, 4}, {5, 7, 5}, {6, 6, 6}, {1, MOST, 10000000}, {1, MOST - 1, 9999999}, {MOST, 1, 10000000},
            {MOST, MOST, MOST}, {MOST, MOST - 1, MOST - 1}, {MOST - 1, MOST - 1, MOST - 1},
            {MOST - 1, MOST - 2, MOST - 2},
            // 2^46 times itself, and times one less.
            {70368744177664L, 70368744177664L, 70368744177664L}, {70368744177664L, 70368744177663L, 70368744177663L},
        };
        for (long[] row : rows) {
            joinsInWhole(PRODUCT, row[0], row[1], row[2]);
        }
    }

    /** "without SHARES: .. SUM u + v; both come in whole" */
    static void promise08JoinASumWithoutSharesIsTheSum() {
        long[][] rows = {{1, 1, 2}, {1, MOST, MOST + 1}, {MOST, 1, MOST + 1}, {MOST, MOST, 2 * MOST}, {3, 5, 8}};
        for (long[] row : rows) {
            joinsInWhole(SUM, row[0], row[1], row[2]);
        }
    }

    private static void joinsInWhole(int kind, long u, long v, long shares) {
        ExactCurves x = new ExactCurves();
        x.mint(4, 0, MOST);
        x.mint(4, 1, MOST);
        x.pool(0, 1, kind, 0);
        due(x.join(4, 0, u, v), shares);
        reserves(x, 0, u, v, shares);
        balances(x, 4, MOST - u, MOST - v);
        due(x.of(0, 13), shares);
    }

    static void promise08JoinAPoolThatAllHaveLeftIsAsAtFirst() {
        Run left = both(pooled(PRODUCT, 0, 3, 12), x -> x.leave(0, 0, 6));
        answers(left, x -> x.join(1, 0, 8, 2), 4);
        ExactCurves x = after(both(left, y -> y.join(1, 0, 8, 2)));
        reserves(x, 0, 8, 2, 4);
        Run leftSum = both(NONE_OF_SIDE_1, y -> y.leave(0, 0, 30));
        answers(leftSum, y -> y.join(1, 0, 8, 2), 10);
        ExactCurves sum = after(both(leftSum, y -> y.join(1, 0, 8, 2)));
        reserves(sum, 0, 8, 2, 10);
    }

    /** "n = the lesser of u S / x and v S / y .. n x // S and n y // S come" */
    static void promise08JoinIsByTheLesserSide() {
        // S is 141: 50 141 / 100 = 70.5 and 200 141 / 200 = 141; then 100 141 / 200 = 70.5 is the lesser.
        for (long[] row : new long[][] {{50, 200}, {100, 100}, {50, 100}}) {
            ExactCurves x = after(pooled(PRODUCT, 0, 100, 200));
            due(x.of(0, 2), 141);
            due(x.join(1, 0, row[0], row[1]), 70);
            // 70 100 // 141 = 49.6 and 70 200 // 141 = 99.3, both rounded up.
            reserves(x, 0, 150, 300, 211);
            balances(x, 1, MOST / 2 - 50, MOST / 2 - 100);
        }
        ExactCurves y = after(pooled(PRODUCT, 0, 100, 200));
        due(y.join(1, 0, 49, 200), 69);
        // 69 100 // 141 = 48.9 and 69 200 // 141 = 97.9.
        reserves(y, 0, 149, 298, 210);
    }

    static void promise08JoinRoundsUpOnlyWhatIsNotWhole() {
        ExactCurves x = after(pooled(PRODUCT, 0, 100, 400));
        due(x.join(1, 0, 10, 40), 20);
        reserves(x, 0, 110, 440, 220);
        due(x.join(1, 0, 10, 39), 19);
        // 19 110 // 220 = 9.5 and 19 440 // 220 = 38.
        reserves(x, 0, 120, 478, 239);
    }

    /** "n 0: refused" */
    static void promise08JoinForNoSharesIsRefused() {
        // S is 100: 9 100 / 1000 = 0.9, 10 100 / 1000 = 1.
        Run steep = pooled(PRODUCT, 0, 1000, 10);
        refused(steep, x -> x.join(1, 0, 9, 10));
        answers(steep, x -> x.join(1, 0, 10, 1), 1);
        Run flat = pooled(PRODUCT, 0, 10, 1000);
        refused(flat, x -> x.join(1, 0, 10, 9));
        answers(flat, x -> x.join(1, 0, 1, 10), 1);
        ExactCurves x = after(both(flat, y -> y.join(1, 0, 1, 10)));
        // 10 // 100 = 1 and 1000 // 100 = 10 come.
        reserves(x, 0, 11, 1010, 101);
    }

    /** "a SIDE whose RESERVE is 0 asks for nothing" */
    static void promise08JoinWithASideWithoutReserve() {
        ExactCurves x = after(NONE_OF_SIDE_1);
        reserves(x, 0, 30, 0, 30);
        due(x.join(1, 0, 7, 1), 7);
        reserves(x, 0, 37, 0, 37);
        balances(x, 1, MOST / 2 - 7, MOST / 2);
        due(x.join(1, 0, 7, MOST / 2), 7);
        reserves(x, 0, 44, 0, 44);
        balances(x, 1, MOST / 2 - 14, MOST / 2);
        ExactCurves y = after(NONE_OF_SIDE_0);
        reserves(y, 0, 0, 30, 30);
        due(y.join(1, 0, MOST / 2, 7), 7);
        reserves(y, 0, 0, 37, 37);
        balances(y, 1, MOST / 2, MOST / 2 - 7);
    }

    static void promise08JoinWithASideWithoutReserveForNoSharesIsRefused() {
        // 23 of SIDE 0 at a FEE of a tenth bring 20 of SIDE 1: RESERVES 33 and 0, S is 30.
        Run drained = both(pooled(SUM, 1000, 10, 20), x -> x.swap(0, 0, 0, 23));
        ExactCurves x = after(drained);
        reserves(x, 0, 33, 0, 30);
        refused(drained, y -> y.join(1, 0, 1, 100));
        due(x.join(1, 0, 2, 100), 1);
        // 33 // 30 = 2 come.
        reserves(x, 0, 35, 0, 31);
    }

    /** "in between nothing is rounded, however great it is" */
    static void promise08JoinOfGreatAmounts() {
        ExactCurves x = new ExactCurves();
        x.mint(0, 0, MOST);
        x.mint(0, 1, MOST);
        x.pool(0, 1, PRODUCT, 0);
        x.join(0, 0, MOST - 1000, MOST - 3000);
        // S is the root of (10^14 - 1000) (10^14 - 3000): 10^14 - 2000 and a bit below, cut off.
        due(x.of(0, 2), MOST - 2001);
        // 1000 S / x = 999.9.., 3000 S / y = 3000.0..: n is 999.
        // 999 x // S = 999.0.. rounded up to 1000, 999 y // S = 998.9.. to 999.
        due(x.join(0, 0, 1000, 3000), 999);
        reserves(x, 0, MOST, MOST - 2001, MOST - 1002);
    }

    static void promise08JoinOfProductsAboutAWord() {
        long word = 4294967296L;
        for (long u : new long[] {word / 2, word - 1, word, word + 1, word + word / 4, word + word / 2, 2 * word}) {
            ExactCurves x = after(pooled(SUM, 0, word, word));
            due(x.join(1, 0, u, u), 2 * u);
            reserves(x, 0, word + u, word + u, 2 * word + 2 * u);
        }
        // The lesser SIDE decides, even where the other one would bring more SHARES than a word holds.
        ExactCurves steep = after(pooled(SUM, 0, 1, MOST / 4));
        due(steep.of(0, 2), MOST / 4 + 1);
        due(steep.join(1, 0, MOST / 2, 1), 1);
        // 1 // S = 1 and 10^14 / 4 // S = 1 come.
        reserves(steep, 0, 2, MOST / 4 + 1, MOST / 4 + 2);
    }

    // ---- Promise 9: "BAD: PLAYER, POOL, n below 1; REFUSED: not as many"

    static void promise09LeaveKnowsPlayers0To5() {
        Run joined = x -> {
            x.pool(0, 1, SUM, 0);
            for (int player = 0; player < 6; player++) {
                x.mint(player, 0, 10);
                x.mint(player, 1, 10);
                x.join(player, 0, 10, 10);
            }
        };
        for (int i = 0; i < 6; i++) {
            int player = i;
            ExactCurves x = after(joined);
            due(x.leave(player, 0, 20), 10);
            balances(x, player, 10, 10);
            for (int other = 0; other < 6; other++) {
                due(x.of(0, 9 + other), other == player ? 0 : 20);
            }
        }
        badWith(NO_PLAYERS, joined, (x, player) -> x.leave(player, 0, 1));
        badWith(NO_PLAYERS, BUSY, (x, player) -> x.leave(player, 0, 1));
    }

    static void promise09LeaveKnowsThePoolsThereAre() {
        answers(BUSY, x -> x.leave(1, 1, 100) > 0 ? 1 : 0, 1);
        badWith(NO_POOLS_OF_2, BUSY, (x, pool) -> x.leave(1, pool, 1));
    }

    static void promise09LeaveTakes1ShareAndNotLess() {
        Run joined = pooled(PRODUCT, 0, 10, 10);
        answers(joined, x -> x.leave(0, 0, 1), 1);
        badWith(BELOW_ONE, joined, (x, n) -> x.leave(0, 0, n));
        badWith(BELOW_ONE, BUSY, (x, n) -> x.leave(0, 0, n));
        badWith(BELOW_ONE, EMPTY, (x, n) -> x.leave(0, 0, n));
    }

    static void promise09LeaveTakesAsManyAsOneHas() {
        Run joined = both(pooled(PRODUCT, 0, 10, 10), x -> x.join(1, 0, 5, 5));
        answers(joined, x -> x.leave(1, 0, 5), 5);
        refusedWith(new long[] {6, 15, 16, MOST, Long.MAX_VALUE}, joined, (x, n) -> x.leave(1, 0, n));
        answers(joined, x -> x.leave(0, 0, 10), 10);
        refused(joined, x -> x.leave(0, 0, 11));
        refused(joined, x -> x.leave(2, 0, 1));
    }

    static void promise09LeaveAPoolWithoutSharesIsRefused() {
        refused(EMPTY, x -> x.leave(0, 0, 1));
        refused(EMPTY, x -> x.leave(0, 0, Long.MAX_VALUE));
        Run left = both(pooled(SUM, 0, 10, 10), x -> x.leave(0, 0, 20));
        refused(left, x -> x.leave(0, 0, 1));
    }

    /** "n x / S and n y / S go out", cut off: what is cut off stays in the POOL. */
    static void promise09LeaveCutsOff() {
        ExactCurves x = after(pooled(PRODUCT, 0, 11, 13));
        // S is 11: 5 11 / 11 = 5, 5 13 / 11 = 5.9.
        due(x.leave(0, 0, 5), 5);
        reserves(x, 0, 6, 8, 6);
        balances(x, 0, MOST / 2 - 6, MOST / 2 - 8);
        ExactCurves y = after(pooled(PRODUCT, 0, 13, 11));
        due(y.leave(0, 0, 5), 5);
        reserves(y, 0, 8, 6, 6);
    }

    static void promise09LeaveMayPayNothingOfASide() {
        ExactCurves x = after(pooled(PRODUCT, 0, 1, 100));
        due(x.leave(0, 0, 9), 0);
        reserves(x, 0, 1, 10, 1);
        ExactCurves y = after(pooled(PRODUCT, 0, 100, 1));
        due(y.leave(0, 0, 9), 90);
        reserves(y, 0, 10, 1, 1);
        balances(y, 0, MOST / 2 - 10, MOST / 2 - 1);
    }

    /** Nothing says that leaving for nothing is refused: the SHARES go. */
    static void promise09LeaveMayPayNothingAtAll() {
        ExactCurves x = after(pooled(SUM, 0, 1, 1));
        due(x.leave(0, 0, 1), 0);
        reserves(x, 0, 1, 1, 1);
        due(x.of(0, 9), 1);
        due(x.leave(0, 0, 1), 1);
        reserves(x, 0, 0, 0, 0);
        balances(x, 0, MOST / 2, MOST / 2);
    }

    static void promise09LeaveFromASideWithoutReserve() {
        ExactCurves x = after(NONE_OF_SIDE_1);
        due(x.leave(0, 0, 10), 10);
        reserves(x, 0, 20, 0, 20);
        ExactCurves y = after(NONE_OF_SIDE_0);
        due(y.leave(0, 0, 10), 0);
        reserves(y, 0, 0, 20, 20);
        balances(y, 0, MOST / 2, MOST / 2 - 20);
    }

    static void promise09LeaveOfTheLastTakesAll() {
        ExactCurves x = after(both(pooled(PRODUCT, 100, 1000, 1000), y -> y.swap(1, 0, 0, 777)));
        long one = x.of(0, 0);
        due(one, 1777);
        due(x.leave(0, 0, 1000), 1777);
        reserves(x, 0, 0, 0, 0);
        due(x.total(0), MOST);
        due(x.balance(0, 0) + x.balance(1, 0), MOST);
        due(x.balance(0, 1) + x.balance(1, 1), MOST);
    }

    static void promise09LeaveOfGreatAmounts() {
        ExactCurves x = new ExactCurves();
        x.mint(0, 0, MOST);
        x.mint(0, 1, MOST);
        x.pool(0, 1, SUM, 0);
        x.join(0, 0, MOST, MOST - 1);
        // (2 10^14 - 2) 10^14 / (2 10^14 - 1) is 10^14 and less than 1 below.
        due(x.leave(0, 0, 2 * MOST - 2), MOST - 1);
        reserves(x, 0, 1, 1, 1);
    }

    /** Products next to 2^63 and 2^64, where one word is full and the next begins. */
    static void promise09LeaveOfProductsAboutAWord() {
        long word = 4294967296L;
        // Half the RESERVE goes for each of the SHARES, which are twice as many.
        long[] parts = {word / 2 - 1, word / 2, word / 2 + 1, word - 1, word, word + 1, word + word / 4,
            word + word / 2, 2 * word - 1};
        for (long n : parts) {
            ExactCurves x = after(pooled(SUM, 0, word, word));
            due(x.leave(0, 0, n), n / 2);
            reserves(x, 0, word - n / 2, word - n / 2, 2 * word - n);
            due(x.balance(0, 0), MOST / 2 - word + n / 2);
        }
        // (2^32 - 1) (2^32 + 1) is 2^64 - 1: one word full of ones.
        ExactCurves full = after(pooled(SUM, 0, word + 1, word + 1));
        due(full.leave(0, 0, word - 1), 2147483647L);
        reserves(full, 0, 2147483650L, 2147483650L, word + 3);
    }
}
