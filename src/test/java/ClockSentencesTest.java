/** Sentences on boundaries: promises 13 to 15, and "THE CLOCK goes by TICKS", "INDEX of each VAULT". */
final class ClockSentencesTest extends Sentences {
    private static final int[] NO_MARKS = {-1, 8, Integer.MIN_VALUE, Integer.MAX_VALUE};

    public static void main(String[] args) {
        runAll(ClockSentencesTest.class, 13, 15);
    }

    /** A POOL of 1 and 10^14: each TICK adds 10^17, so that 93 go over 2^63 and 185 over 2^64. */
    private static final Run STEEPEST = x -> {
        x.mint(0, 0, 1);
        x.mint(0, 1, MOST);
        x.pool(0, 1, PRODUCT, 0);
        x.join(0, 0, 1, MOST);
    };

    private static Run ticks(int n) {
        return x -> x.tick(n);
    }

    // ---- Promise 13: "n TICKS (0 .. 1000): THE CLOCK. BAD."

    static void promise13TickTakes0AndNotLess() {
        answersAndChangesNothing(NOTHING, x -> x.tick(0), 0);
        answersAndChangesNothing(BUSY, x -> x.tick(0), 37);
        badWith(new int[] {-1, -1000, Integer.MIN_VALUE}, BUSY, (x, n) -> x.tick(n));
    }

    static void promise13TickTakes1000AndNotMore() {
        answers(NOTHING, x -> x.tick(1000), 1000);
        answers(BUSY, x -> x.tick(1000), 1037);
        badWith(new int[] {1001, 2000, Integer.MAX_VALUE}, BUSY, (x, n) -> x.tick(n));
    }

    static void promise13TickAddsUp() {
        ExactCurves x = new ExactCurves();
        due(x.tick(1000), 1000);
        due(x.tick(1), 1001);
        due(x.tick(0), 1001);
        due(x.tick(1001), BAD);
        due(x.tick(-1), BAD);
        due(x.tick(999), 2000);
        due(x.count(3), 2000);
    }

    /** "adds 1000 y / x to its TALLY .., and 1 to its AGE", cut off with each TICK. */
    static void promise13TickAddsToTallyAndAge() {
        ExactCurves x = after(pooled(PRODUCT, 0, 7, 20));
        x.tick(1);
        due(x.of(0, 3), 2857);
        due(x.of(0, 4), 1);
        x.tick(999);
        due(x.of(0, 3), 2857000);
        due(x.of(0, 4), 1000);
        ExactCurves other = after(pooled(SUM, 0, 20, 7));
        other.tick(3);
        due(other.of(0, 3), 3 * 350);
        due(other.of(0, 4), 3);
    }

    /** What is cut off to 0 leaves the TALLY, but AGE grows. */
    static void promise13TickMayAddNothingToTheTally() {
        ExactCurves x = after(pooled(PRODUCT, 0, 1001, 1));
        x.tick(10);
        due(x.of(0, 3), 0);
        due(x.of(0, 4), 10);
        ExactCurves y = after(pooled(PRODUCT, 0, 1000, 1));
        y.tick(10);
        due(y.of(0, 3), 10);
        due(y.of(0, 4), 10);
    }

    /** "a POOL with both RESERVES above 0" */
    static void promise13TickPassesAPoolWithoutReserves() {
        ExactCurves empty = after(both(rich(10), x -> x.pool(0, 1, PRODUCT, 0)));
        empty.tick(1000);
        due(empty.of(0, 3), 0);
        due(empty.of(0, 4), 0);
        ExactCurves one = after(both(pooled(SUM, 0, 5, 9), x -> x.swap(1, 0, 0, 9)));
        reserves(one, 0, 14, 0, 14);
        one.tick(1000);
        due(one.of(0, 3), 0);
        due(one.of(0, 4), 0);
        ExactCurves other = after(both(pooled(SUM, 0, 5, 9), x -> x.swap(1, 0, 1, 5)));
        reserves(other, 0, 0, 14, 14);
        other.tick(1000);
        due(other.of(0, 3), 0);
        due(other.of(0, 4), 0);
        due(other.swap(1, 0, 0, 1), 1);
        other.tick(2);
        due(other.of(0, 3), 26000);
        due(other.of(0, 4), 2);
    }

    static void promise13TickPassesAPoolThatAllHaveLeft() {
        ExactCurves x = after(both(pooled(PRODUCT, 0, 5, 5), ticks(4)));
        x.leave(0, 0, 5);
        x.tick(100);
        due(x.of(0, 3), 4000);
        due(x.of(0, 4), 4);
        x.join(0, 0, 5, 10);
        x.tick(1);
        due(x.of(0, 3), 6000);
        due(x.of(0, 4), 5);
    }

    static void promise13TickIsForEachOf6Pools() {
        ExactCurves x = after(rich(1000));
        for (int pool = 0; pool < 6; pool++) {
            x.pool(0, 1, SUM, 0);
            x.join(0, pool, 1, pool + 1);
        }
        x.tick(2);
        for (int pool = 0; pool < 6; pool++) {
            due(x.of(pool, 3), 2000L * (pool + 1));
            due(x.of(pool, 4), 2);
        }
    }

    /** "64 bits, running over", in one call and in many. */
    static void promise13TickLetsTheTallyRunOver() {
        answers(both(STEEPEST, ticks(92)), x -> x.of(0, 3), 9200000000000000000L);
        answers(both(STEEPEST, ticks(93)), x -> x.of(0, 3), -9146744073709551616L);
        answers(both(STEEPEST, ticks(184)), x -> x.of(0, 3), -46744073709551616L);
        answers(both(STEEPEST, ticks(185)), x -> x.of(0, 3), 53255926290448384L);
        ExactCurves x = after(STEEPEST);
        for (int i = 0; i < 185; i++) {
            x.tick(1);
        }
        due(x.of(0, 3), 53255926290448384L);
        due(x.of(0, 4), 185);
        // 10^20 is 5 times 2^64 and 7766279631452241920.
        answers(both(STEEPEST, ticks(1000)), y -> y.of(0, 3), 7766279631452241920L);
        answers(both(STEEPEST, ticks(1000)), y -> y.of(0, 4), 1000);
    }

    /** "with each TICK it becomes INDEX + INDEX RATE / 10^9", cut off each time. */
    static void promise13TickLetsAnIndexGrow() {
        ExactCurves x = new ExactCurves();
        x.rate(1, 1000000);
        x.rate(2, 1);
        x.rate(3, 999);
        x.tick(1);
        long[] want = {1000000000, 1001000000, 1000000001, 1000000999};
        for (int token = 0; token < 4; token++) {
            due(x.vault(token, 3), want[token]);
        }
        x.tick(1);
        // 1001000000 / 1000; 1.000000001; 999.000998.
        long[] then = {1000000000, 1002001000, 1000000002, 1000001998};
        for (int token = 0; token < 4; token++) {
            due(x.vault(token, 3), then[token]);
        }
        x.tick(1);
        due(x.vault(1, 3), 1003003001);
        x.tick(1);
        // 1003003.001 is cut off.
        due(x.vault(1, 3), 1004006004);
    }

    static void promise13TickLeavesAnIndexWithoutRate() {
        ExactCurves x = after(y -> y.rate(1, 1000000));
        x.tick(5);
        long index = x.vault(1, 3);
        x.rate(1, 0);
        x.tick(1000);
        due(x.vault(1, 3), index);
    }

    /** "(10^12 at most ..)": 6911 TICKS at the greatest RATE stay below it, one more would go above. */
    static void promise13TickLetsAnIndexGrowTo10To12() {
        ExactCurves x = after(y -> y.rate(0, 1000000));
        for (int i = 0; i < 6; i++) {
            x.tick(1000);
        }
        x.tick(911);
        due(x.vault(0, 3), 999791050767L);
        x.tick(1);
        due(x.vault(0, 3), 1000000000000L);
        x.tick(1);
        due(x.vault(0, 3), 1000000000000L);
        x.tick(1000);
        due(x.vault(0, 3), 1000000000000L);
        due(x.vault(0, 4), 1000000);
        due(x.vault(1, 3), 1000000000L);
    }

    static void promise13TickReachesTheMostIndexWithinACall() {
        ExactCurves x = after(y -> y.rate(3, 1000000));
        for (int i = 0; i < 7; i++) {
            x.tick(1000);
        }
        due(x.vault(3, 3), 1000000000000L);
        due(x.count(3), 7000);
    }

    // ---- Promise 14: "MARK k (0 .. 7): a POOL's TALLY and AGE of now: 1. BAD."

    static void promise14MarkKnowsMarks0To7() {
        for (int k = 0; k < 8; k++) {
            ExactCurves x = after(pooled(PRODUCT, 0, 10, 20));
            due(x.mark(k, 0), 1);
            x.tick(1);
            for (int other = 0; other < 8; other++) {
                due(x.mean(other), other == k ? 2000 : BAD);
            }
        }
        badWith(NO_MARKS, BUSY, (x, k) -> x.mark(k, 0));
    }

    static void promise14MarkKnowsThePoolsThereAre() {
        answers(BUSY, x -> x.mark(0, 0), 1);
        answers(BUSY, x -> x.mark(0, 1), 1);
        badWith(NO_POOLS_OF_2, BUSY, (x, pool) -> x.mark(0, pool));
        // MARKS 1 and 6 are there: a call that is BAD leaves them.
        badWith(NO_POOLS_OF_2, BUSY, (x, pool) -> x.mark(1, pool));
        badWith(NO_POOLS_OF_2, BUSY, (x, pool) -> x.mark(6, pool));
        bad(NOTHING, x -> x.mark(0, 0));
    }

    static void promise14MarkThatIsBadMakesNone() {
        Run tried = both(pooled(PRODUCT, 0, 10, 20), x -> {
            x.mark(3, 1);
            x.mark(3, -1);
        });
        bad(tried, x -> x.mean(3));
    }

    static void promise14MarkMayBeSetAgain() {
        ExactCurves x = after(pooled(PRODUCT, 0, 10, 20));
        x.pool(1, 0, PRODUCT, 0);
        x.join(1, 1, 10, 70);
        x.mark(4, 0);
        x.tick(5);
        due(x.mark(4, 0), 1);
        due(x.mean(4), NONE);
        x.tick(5);
        due(x.mean(4), 2000);
        due(x.mark(4, 1), 1);
        due(x.mean(4), NONE);
        x.tick(1);
        due(x.mean(4), 7000);
    }

    static void promise14MarkMayBeOfAnEmptyPool() {
        ExactCurves x = after(both(rich(100), y -> y.pool(0, 1, PRODUCT, 0)));
        due(x.mark(0, 0), 1);
        x.tick(10);
        due(x.mean(0), NONE);
        x.join(0, 0, 10, 50);
        x.tick(2);
        due(x.mean(0), 5000);
    }

    static void promise14MarkChangesNothingElse() {
        Run marked = both(BUSY, x -> x.mark(0, 1));
        ExactCurves x = after(marked);
        ExactCurves plain = after(BUSY);
        for (int what = 0; what < 15; what++) {
            due(x.of(1, what), plain.of(1, what));
        }
        due(x.mean(1), plain.mean(1));
        due(x.mean(6), plain.mean(6));
    }

    // ---- Promise 15: "NONE: by nothing. BAD: no such MARK."

    static void promise15MeanKnowsMarks0To7() {
        Run marked = both(pooled(PRODUCT, 0, 10, 20), x -> {
            x.mark(0, 0);
            x.mark(7, 0);
            x.tick(3);
        });
        answersAndChangesNothing(marked, x -> x.mean(0), 2000);
        answersAndChangesNothing(marked, x -> x.mean(7), 2000);
        badWith(new int[] {1, 2, 3, 4, 5, 6}, marked, (x, k) -> x.mean(k));
        badWith(NO_MARKS, marked, (x, k) -> x.mean(k));
        badWith(NO_MARKS, BUSY, (x, k) -> x.mean(k));
    }

    static void promise15MeanOfNothingIsNone() {
        Run marked = both(pooled(PRODUCT, 0, 10, 20), x -> x.mark(2, 0));
        answersAndChangesNothing(marked, x -> x.mean(2), NONE);
        answersAndChangesNothing(both(marked, ticks(0)), x -> x.mean(2), NONE);
        answersAndChangesNothing(both(marked, ticks(1)), x -> x.mean(2), 2000);
        Run later = both(both(pooled(PRODUCT, 0, 10, 20), ticks(9)), x -> x.mark(2, 0));
        answersAndChangesNothing(later, x -> x.mean(2), NONE);
        answersAndChangesNothing(both(later, ticks(1)), x -> x.mean(2), 2000);
    }

    /** AGE stands still without RESERVES, even if THE CLOCK does not. */
    static void promise15MeanOfAPoolWithoutReservesIsNone() {
        Run empty = both(rich(10), x -> {
            x.pool(0, 1, PRODUCT, 0);
            x.mark(2, 0);
            x.tick(1000);
        });
        answersAndChangesNothing(empty, x -> x.mean(2), NONE);
        Run drained = both(pooled(SUM, 0, 5, 9), x -> {
            x.tick(3);
            x.swap(1, 0, 0, 9);
            x.mark(2, 0);
            x.tick(1000);
        });
        answersAndChangesNothing(drained, x -> x.mean(2), NONE);
    }

    /** A TALLY that grew by nothing while AGE did has a mean, of 0. */
    static void promise15MeanMayBe0() {
        Run flat = both(pooled(PRODUCT, 0, 1001, 1), x -> x.mark(2, 0));
        answersAndChangesNothing(flat, x -> x.mean(2), NONE);
        answersAndChangesNothing(both(flat, ticks(5)), x -> x.mean(2), 0);
    }

    /** "what TALLY grew by .. / what AGE did", cut off. */
    static void promise15MeanIsCutOff() {
        ExactCurves x = after(pooled(SUM, 0, 10, 20));
        x.mark(0, 0);
        x.tick(1);
        due(x.swap(1, 0, 0, 1), 1);
        // 2000, then 19000 / 11 = 1727: 3727 / 2 = 1863.5, 5454 / 3 = 1818.
        x.tick(1);
        due(x.mean(0), 1863);
        x.tick(1);
        due(x.mean(0), 1818);
        x.tick(1);
        // 7181 / 4 = 1795.2.
        due(x.mean(0), 1795);
    }

    /** AGE alone divides, not what THE CLOCK did. */
    static void promise15MeanIsByAgeAndNotByTheClock() {
        ExactCurves x = after(pooled(PRODUCT, 0, 5, 10));
        x.mark(0, 0);
        x.tick(3);
        x.leave(0, 0, 7);
        x.tick(500);
        due(x.mean(0), 2000);
        x.join(0, 0, 10, 10);
        x.tick(3);
        due(x.mean(0), 1500);
    }

    /** "(without sign)": the growth of a TALLY may be 2^63 and more. */
    static void promise15MeanIsWithoutSign() {
        Run marked = both(STEEPEST, x -> x.mark(5, 0));
        int[] grown = {1, 92, 93, 100, 184};
        for (int n : grown) {
            answersAndChangesNothing(both(marked, ticks(n)), x -> x.mean(5), 100000000000000000L);
        }
    }

    /** A MARK below 2^63 or 2^64 and a TALLY that has run over it since. */
    static void promise15MeanOfATallyThatRanOver() {
        Run atHalf = both(both(STEEPEST, ticks(92)), x -> x.mark(5, 0));
        answersAndChangesNothing(both(atHalf, ticks(1)), x -> x.mean(5), 100000000000000000L);
        Run atWhole = both(both(STEEPEST, ticks(184)), x -> x.mark(5, 0));
        answersAndChangesNothing(both(atWhole, ticks(1)), x -> x.mean(5), 100000000000000000L);
        answersAndChangesNothing(both(atWhole, ticks(184)), x -> x.mean(5), 100000000000000000L);
    }

    /** What it grew by is 64 bits as well: beyond 2^64 the mean is of what is left. */
    static void promise15MeanOfMoreThan64Bits() {
        Run marked = both(STEEPEST, x -> x.mark(5, 0));
        // 185 10^17 - 2^64 = 53255926290448384, by 185 = 287869871840261.5.
        answersAndChangesNothing(both(marked, ticks(185)), x -> x.mean(5), 287869871840261L);
        // 10^20 less 5 times 2^64, by 1000.
        answersAndChangesNothing(both(marked, ticks(1000)), x -> x.mean(5), 7766279631452241L);
    }
}
