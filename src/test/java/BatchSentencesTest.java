/** Sentences on boundaries: promises 16 to 19, and "A BATCH", "TO CLEAR". */
final class BatchSentencesTest extends Sentences {
    private static final long MOST_Q = 10000000000L;

    public static void main(String[] args) {
        runAll(BatchSentencesTest.class, 16, 19);
    }

    /** An ORDER of a row: player, buy, q, l. */
    private static Run orders(long[]... rows) {
        return x -> {
            for (long[] row : rows) {
                x.order((int) row[0], (int) row[1], row[2], row[3]);
            }
        };
    }

    /** PLAYERS 0 and 1 have 10000 of every TOKEN, and give these ORDERS. */
    private static Run ordered(long[]... rows) {
        return both(rich(10000), orders(rows));
    }

    private static final Run FORTY = both(rich(10000), x -> {
        for (int i = 0; i < 40; i++) {
            x.order(i % 2, i % 2, 1 + i, 1000 + 100 * (i % 2));
        }
    });

    private static void deals(ExactCurves x, long... parts) {
        due(x.dealt(1), parts.length);
        for (int i = 0; i < parts.length; i++) {
            due(x.dealt(2 + i), parts[i]);
        }
        due(x.dealt(2 + parts.length), BAD);
    }

    // ---- Promise 16: "BAD: a TOKEN, alike ones; REFUSED: there are ORDERS. (0 and 1 at first.)"

    static void promise16BatchIsOfTokens0And1AtFirst() {
        ExactCurves x = after(rich(100));
        due(x.order(0, SELL, 7, 1000), 0);
        due(x.balance(0, 0), 93);
        due(x.order(0, BUY, 9, 1000), 1);
        due(x.balance(0, 1), 91);
        due(x.balance(0, 2), 100);
        due(x.balance(0, 3), 100);
    }

    static void promise16BatchKnowsTokens0To3() {
        for (int a = 0; a < 4; a++) {
            for (int b = 0; b < 4; b++) {
                if (a != b) {
                    batchIsOf(a, b);
                }
            }
        }
        badWith(NO_TOKENS, rich(100), (x, token) -> x.batch(token, 3));
        badWith(NO_TOKENS, rich(100), (x, token) -> x.batch(3, token));
        badWith(NO_TOKENS, rich(100), (x, token) -> x.batch(token, token));
        badWith(NO_TOKENS, BUSY, (x, token) -> x.batch(token, 3));
        badWith(NO_TOKENS, BUSY, (x, token) -> x.batch(3, token));
    }

    private static void batchIsOf(int a, int b) {
        ExactCurves x = after(rich(100));
        due(x.batch(a, b), 1);
        x.order(0, SELL, 7, 1000);
        x.order(0, BUY, 9, 1000);
        for (int token = 0; token < 4; token++) {
            due(x.balance(0, token), token == a ? 93 : token == b ? 91 : 100);
        }
    }

    static void promise16BatchIsOfUnlikeTokens() {
        for (int i = 0; i < 4; i++) {
            int token = i;
            bad(rich(100), x -> x.batch(token, token));
            bad(both(rich(100), x -> x.batch(3, 2)), x -> x.batch(token, token));
            bad(BUSY, x -> x.batch(token, token));
        }
    }

    static void promise16BatchWithOrdersIsRefused() {
        Run one = ordered(new long[] {0, SELL, 5, 1000});
        refused(one, x -> x.batch(2, 3));
        refused(one, x -> x.batch(1, 0));
        refused(one, x -> x.batch(0, 1));
        refused(ordered(new long[] {0, BUY, 5, 1000}), x -> x.batch(2, 3));
        refused(FORTY, x -> x.batch(2, 3));
        refused(BUSY, x -> x.batch(0, 1));
    }

    static void promise16BatchMayChangeOnceOrdersAreCleared() {
        ExactCurves x = after(both(FORTY, y -> y.clear()));
        due(x.batch(3, 2), 1);
        due(x.batch(0, 2), 1);
        x.order(0, BUY, 9, 1000);
        due(x.balance(0, 2), 10000 - 9);
        due(x.batch(1, 2), REFUSED);
        x.clear();
        due(x.batch(1, 2), 1);
    }

    static void promise16BatchMayChangeAfterAnOrderWasRefused() {
        ExactCurves x = after(y -> y.order(0, SELL, 1, 1));
        due(x.batch(2, 3), 1);
    }

    // ---- Promise 17: "BAD: PLAYER, buy not 0 (to sell), 1, q not 1 .. 10^10, l; REFUSED: BALANCE, there are 40"

    static void promise17OrderKnowsPlayers0To5() {
        for (int player = 0; player < 6; player++) {
            ExactCurves x = new ExactCurves();
            x.mint(player, 0, 10);
            x.mint(player, 1, 10);
            due(x.order(player, SELL, 3, 1000), 0);
            due(x.order(player, BUY, 4, 1000), 1);
            balances(x, player, 7, 6);
        }
        badWith(NO_PLAYERS, BUSY, (x, player) -> x.order(player, SELL, 1, 1000));
        badWith(NO_PLAYERS, BUSY, (x, player) -> x.order(player, BUY, 1, 1000));
    }

    static void promise17OrderIsToSellOrToBuy() {
        answers(rich(100), x -> x.order(0, 0, 1, 1), 0);
        answers(rich(100), x -> x.order(0, 1, 1, 1), 0);
        int[] wrong = {-1, 2, Integer.MIN_VALUE, Integer.MAX_VALUE};
        badWith(wrong, rich(100), (x, buy) -> x.order(0, buy, 1, 1));
        badWith(wrong, BUSY, (x, buy) -> x.order(0, buy, 1, 1));
    }

    static void promise17OrderIsOf1AndNotLess() {
        answers(rich(100), x -> x.order(0, SELL, 1, 1000), 0);
        answers(rich(100), x -> x.order(0, BUY, 1, 1000), 0);
        badWith(BELOW_ONE, rich(100), (x, q) -> x.order(0, SELL, q, 1000));
        badWith(BELOW_ONE, rich(100), (x, q) -> x.order(0, BUY, q, 1000));
        badWith(BELOW_ONE, BUSY, (x, q) -> x.order(0, BUY, q, 1000));
    }

    static void promise17OrderIsOf10To10AndNotMore() {
        Run rich = rich(MOST / 2);
        answers(rich, x -> x.order(0, SELL, MOST_Q, 1000), 0);
        answers(rich, x -> x.order(0, BUY, MOST_Q, 1000), 0);
        long[] wrong = {MOST_Q + 1, MOST, Long.MAX_VALUE};
        badWith(wrong, rich, (x, q) -> x.order(0, SELL, q, 1000));
        badWith(wrong, rich, (x, q) -> x.order(0, BUY, q, 1));
        badWith(wrong, NOTHING, (x, q) -> x.order(0, BUY, q, 1));
    }

    /** "a LIMIT l (1 .. 1000000: of b for 1000 of a)" */
    static void promise17OrderHasALimitOf1AndNotLess() {
        answers(rich(100), x -> x.order(0, SELL, 5, 1), 0);
        answers(rich(100), x -> x.order(0, BUY, 5, 1), 0);
        badWith(BELOW_ONE, rich(100), (x, l) -> x.order(0, SELL, 5, l));
        badWith(BELOW_ONE, rich(100), (x, l) -> x.order(0, BUY, 5, l));
        badWith(BELOW_ONE, BUSY, (x, l) -> x.order(0, SELL, 5, l));
    }

    static void promise17OrderHasALimitOf1000000AndNotMore() {
        answers(rich(10000), x -> x.order(0, SELL, 5, 1000000), 0);
        answers(rich(10000), x -> x.order(0, BUY, 5, 1000000), 0);
        long[] wrong = {1000001, 4294967297L, Long.MAX_VALUE};
        badWith(wrong, rich(10000), (x, l) -> x.order(0, SELL, 5, l));
        badWith(wrong, rich(10000), (x, l) -> x.order(0, BUY, 5, l));
    }

    static void promise17OrderToSellNeedsABalanceOfQ() {
        Run has = x -> {
            x.mint(2, 0, 10);
            x.mint(2, 1, MOST);
        };
        answers(has, x -> x.order(2, SELL, 10, 1000), 0);
        refusedWith(new long[] {11, MOST_Q}, has, (x, q) -> x.order(2, SELL, q, 1000));
        due(after(both(has, x -> x.order(2, SELL, 10, 1000))).balance(2, 0), 0);
        refused(both(has, x -> x.order(2, SELL, 10, 1000)), x -> x.order(2, SELL, 1, 1));
        refused(NOTHING, x -> x.order(0, SELL, 1, 1));
    }

    /** "Who buys gives q l // 1000 of b" */
    static void promise17OrderToBuyNeedsABalanceOfQTimesL() {
        Run has = x -> {
            x.mint(2, 0, MOST);
            x.mint(2, 1, 10);
        };
        answers(has, x -> x.order(2, BUY, 10, 1000), 0);
        refused(has, x -> x.order(2, BUY, 11, 1000));
        refused(has, x -> x.order(2, BUY, 10, 1001));
        answers(has, x -> x.order(2, BUY, 10000, 1), 0);
        refused(has, x -> x.order(2, BUY, 10001, 1));
        answers(has, x -> x.order(2, BUY, 1, 10000), 0);
        refused(has, x -> x.order(2, BUY, 1, 10001));
        refused(has, x -> x.order(2, BUY, MOST_Q, 1000000));
        refused(NOTHING, x -> x.order(0, BUY, 1, 1));
    }

    static void promise17OrderToBuyGivesWhatIsRoundedUp() {
        long[][] rows = {{1, 1, 1}, {999, 1, 1}, {1000, 1, 1}, {1001, 1, 2}, {1, 999, 1}, {1, 1000, 1}, {1, 1001, 2},
            {7, 143, 2}, {1, 1000000, 1000}, {MOST_Q, 1000000, 10000000000000L}, {MOST_Q, 1, 10000000},
            {MOST_Q - 1, 1, 10000000}, {MOST_Q - 1, 999999, 9999989999001L}};
        for (long[] row : rows) {
            ExactCurves x = after(y -> y.mint(3, 1, MOST));
            due(x.order(3, BUY, row[0], row[1]), 0);
            due(x.balance(3, 1), MOST - row[2]);
            due(x.clear(), 0);
            due(x.balance(3, 1), MOST);
        }
    }

    /** "ORDERS, 40 at most", "its number, from 0" */
    static void promise17OrderNumbersAre0To39() {
        ExactCurves x = after(rich(100));
        for (int i = 0; i < 40; i++) {
            due(x.count(1), i);
            due(x.order(i % 2, SELL, 1, 1000), i);
        }
        due(x.count(1), 40);
    }

    static void promise17OrderFortyFirstIsRefused() {
        refused(FORTY, x -> x.order(0, SELL, 1, 1000));
        refused(FORTY, x -> x.order(1, BUY, 1, 1));
        bad(FORTY, x -> x.order(0, SELL, 0, 1000));
        bad(FORTY, x -> x.order(6, SELL, 1, 1000));
        answers(both(FORTY, x -> x.clear()), x -> x.order(0, SELL, 1, 1000), 0);
    }

    static void promise17OrderThatFailsTakesNoNumber() {
        ExactCurves x = after(rich(100));
        due(x.order(0, SELL, 101, 1000), REFUSED);
        due(x.order(0, SELL, 0, 1000), BAD);
        due(x.order(0, SELL, 1, 1000), 0);
        due(x.order(0, SELL, 100, 1000), REFUSED);
        due(x.order(0, SELL, 99, 1000), 1);
    }

    // ---- Promise 18: "P; 0: nothing is dealt (all is given back)"

    static void promise18ClearWithoutOrdersDealsNothing() {
        answersAndChangesNothing(NOTHING, x -> x.clear(), 0);
        answersAndChangesNothing(rich(100), x -> x.clear(), 0);
    }

    static void promise18ClearOfOneSideGivesAllBack() {
        Run sells = ordered(new long[] {0, SELL, 5, 1}, new long[] {1, SELL, 6, 1000000});
        answers(sells, x -> x.clear(), 0);
        ExactCurves x = after(both(sells, y -> y.clear()));
        balances(x, 0, 10000, 10000);
        balances(x, 1, 10000, 10000);
        deals(x, 0, 0);
        Run buys = ordered(new long[] {0, BUY, 7, 143}, new long[] {1, BUY, 1, 1});
        answers(buys, y -> y.clear(), 0);
        ExactCurves z = after(both(buys, y -> y.clear()));
        balances(z, 0, 10000, 10000);
        balances(z, 1, 10000, 10000);
        due(z.house(1), 0);
        due(z.count(1), 0);
    }

    static void promise18ClearOfLimitsThatDoNotMeetGivesAllBack() {
        Run apart = ordered(new long[] {0, SELL, 5, 1001}, new long[] {1, BUY, 7, 1000});
        answers(apart, x -> x.clear(), 0);
        ExactCurves x = after(both(apart, y -> y.clear()));
        balances(x, 0, 10000, 10000);
        balances(x, 1, 10000, 10000);
        due(x.dealt(0), 0);
        deals(x, 0, 0);
        due(x.count(1), 0);
    }

    /** "LIMITS of P and more .. P and less": LIMITS that are alike meet. */
    static void promise18ClearOfLimitsThatJustMeetDeals() {
        Run meet = ordered(new long[] {0, SELL, 5, 1000}, new long[] {1, BUY, 7, 1000});
        answers(meet, x -> x.clear(), 1000);
        ExactCurves x = after(both(meet, y -> y.clear()));
        balances(x, 0, 9995, 10005);
        balances(x, 1, 10005, 9995);
        deals(x, 5, 5);
        Run least = ordered(new long[] {0, SELL, 1000, 1}, new long[] {1, BUY, 1000, 1});
        answers(least, y -> y.clear(), 1);
        Run most = ordered(new long[] {0, SELL, 1, 1000000}, new long[] {1, BUY, 1, 1000000});
        answers(most, y -> y.clear(), 1000000);
    }

    /** "that one at which most is dealt" */
    static void promise18ClearDealsTheMost() {
        // 300: 9 against 4; 400 and 500: 5 against 5.
        answers(ordered(new long[] {0, SELL, 4, 300}, new long[] {0, SELL, 1, 400}, new long[] {1, BUY, 4, 300},
            new long[] {1, BUY, 5, 500}), x -> x.clear(), 400);
        // 300: 3 against 1; 400 and 500: 3 against 9, which deal more, though they are further apart.
        answers(ordered(new long[] {1, BUY, 3, 500}, new long[] {0, SELL, 1, 300}, new long[] {0, SELL, 8, 400}),
            x -> x.clear(), 400);
        // The same with much to buy: 500: 1 against 3; 400 and 300: 9 against 3.
        answers(ordered(new long[] {0, SELL, 3, 300}, new long[] {1, BUY, 1, 500}, new long[] {1, BUY, 8, 400}),
            x -> x.clear(), 300);
    }

    /** "of several the one at which these two are nearest" */
    static void promise18ClearOfSeveralTakesTheNearest() {
        // 100 and 150: 15 against 10; 300: 10 against 10. All deal 10.
        answers(ordered(new long[] {0, SELL, 10, 100}, new long[] {1, BUY, 5, 150}, new long[] {1, BUY, 10, 300}),
            x -> x.clear(), 300);
        // 100: 11 against 10; 200 and 300: 10 against 15.
        answers(ordered(new long[] {0, SELL, 10, 100}, new long[] {0, SELL, 5, 200}, new long[] {1, BUY, 10, 300},
            new long[] {1, BUY, 1, 100}), x -> x.clear(), 100);
        // 100: 12 against 10, 2 apart; 200 and 300: 10 against 13, 3 apart.
        answers(ordered(new long[] {0, SELL, 10, 100}, new long[] {0, SELL, 3, 200}, new long[] {1, BUY, 10, 300},
            new long[] {1, BUY, 2, 100}), x -> x.clear(), 100);
        // 100: 13 against 10, 3 apart; 200 and 300: 10 against 12, 2 apart; the least of these.
        answers(ordered(new long[] {0, SELL, 10, 100}, new long[] {0, SELL, 2, 200}, new long[] {1, BUY, 10, 300},
            new long[] {1, BUY, 3, 100}), x -> x.clear(), 200);
    }

    /** "then the least one", wherever it stands. */
    static void promise18ClearOfThoseAsNearTakesTheLeast() {
        answers(ordered(new long[] {1, BUY, 5, 900}, new long[] {0, SELL, 5, 300}), x -> x.clear(), 300);
        answers(ordered(new long[] {0, SELL, 5, 300}, new long[] {1, BUY, 5, 900}), x -> x.clear(), 300);
        // 100: 13 against 10; 200 and 300: 10 against 13: all 3 apart.
        answers(ordered(new long[] {1, BUY, 10, 300}, new long[] {0, SELL, 3, 200}, new long[] {0, SELL, 10, 100},
            new long[] {1, BUY, 3, 100}), x -> x.clear(), 100);
    }

    /** "The SIDE with less is dealt in whole; of the other one ORDERS with better LIMITS first (buying the greater)" */
    static void promise18ClearDealsWithTheGreaterBuyersFirst() {
        Run run = ordered(new long[] {0, BUY, 5, 500}, new long[] {0, BUY, 5, 501}, new long[] {0, BUY, 5, 502},
            new long[] {1, SELL, 12, 500});
        answers(run, x -> x.clear(), 500);
        ExactCurves x = after(both(run, y -> y.clear()));
        due(x.dealt(0), 12);
        deals(x, 2, 5, 5, 12);
    }

    /** "(.. selling the lesser)" */
    static void promise18ClearDealsWithTheLesserSellersFirst() {
        Run run = ordered(new long[] {0, SELL, 5, 500}, new long[] {0, SELL, 5, 499}, new long[] {0, SELL, 5, 498},
            new long[] {1, BUY, 12, 500});
        answers(run, x -> x.clear(), 500);
        ExactCurves x = after(both(run, y -> y.clear()));
        due(x.dealt(0), 12);
        deals(x, 2, 5, 5, 12);
    }

    /** "of alike ones the earlier; so the last one perhaps in part" */
    static void promise18ClearDealsWithTheEarlierOfAlikeOnes() {
        Run buyers = ordered(new long[] {0, BUY, 5, 500}, new long[] {1, BUY, 5, 500}, new long[] {0, BUY, 5, 500},
            new long[] {1, SELL, 7, 500});
        ExactCurves x = after(both(buyers, y -> y.clear()));
        deals(x, 5, 2, 0, 7);
        Run sellers = ordered(new long[] {0, SELL, 5, 500}, new long[] {1, SELL, 5, 500}, new long[] {0, SELL, 5, 500},
            new long[] {1, BUY, 10, 500});
        ExactCurves z = after(both(sellers, y -> y.clear()));
        deals(z, 5, 5, 0, 10);
    }

    /** ORDERS whose LIMITS the price does not reach get nothing, and all back. */
    static void promise18ClearPassesOrdersBeyondThePrice() {
        // 500: 6 against 5; 600: 1 against 5.
        Run run = ordered(new long[] {0, BUY, 1, 600}, new long[] {0, BUY, 5, 500}, new long[] {1, BUY, 7, 499},
            new long[] {1, SELL, 5, 500}, new long[] {0, SELL, 9, 700});
        answers(run, x -> x.clear(), 500);
        ExactCurves x = after(both(run, y -> y.clear()));
        deals(x, 1, 4, 0, 5, 0);
        // 0 pays 500 // 1000 = 1 and 2 for 5; 1 gets 2500 / 1000 = 2.
        balances(x, 0, 10005, 9997);
        balances(x, 1, 9995, 10002);
        due(x.house(1), 1);
    }

    /** "a buyer gets d and pays d P // 1000 of what it gave, the rest of that is given back" */
    static void promise18ClearRoundsUpWhatABuyerPays() {
        Run run = ordered(new long[] {0, SELL, 10, 333}, new long[] {1, BUY, 7, 999});
        answers(run, x -> x.clear(), 333);
        ExactCurves x = after(both(run, y -> y.clear()));
        // Gave 6993 // 1000 = 7, pays 2331 // 1000 = 3; the seller gets 2.
        balances(x, 1, 10007, 9997);
        balances(x, 0, 9993, 10002);
        due(x.house(1), 1);
        Run whole = ordered(new long[] {0, SELL, 1000, 3}, new long[] {1, BUY, 1000, 3});
        ExactCurves y = after(both(whole, z -> z.clear()));
        balances(y, 1, 11000, 9997);
        balances(y, 0, 9000, 10003);
        due(y.house(1), 0);
    }

    /** "What is left of b over is the HOUSE's": each ORDER is rounded for itself. */
    static void promise18ClearLeavesTheRestToTheHouse() {
        Run run = both(rich(10000), x -> {
            for (int i = 0; i < 20; i++) {
                x.order(0, SELL, 1, 1);
                x.order(1, BUY, 1, 1);
            }
        });
        answers(run, x -> x.clear(), 1);
        ExactCurves x = after(both(run, y -> y.clear()));
        balances(x, 0, 9980, 10000);
        balances(x, 1, 10020, 9980);
        due(x.house(1), 20);
        due(x.house(0), 0);
    }

    /** "Then there are no ORDERS." */
    static void promise18ClearLeavesNoOrders() {
        ExactCurves x = after(FORTY);
        due(x.count(1), 40);
        // 20 to sell, 400 in all, at 1000; 20 to buy, 420 in all, at 1100.
        due(x.clear(), 1000);
        due(x.count(1), 0);
        due(x.dealt(0), 400);
        due(x.dealt(1), 40);
        due(x.dealt(41), 20);
        due(x.dealt(39), 38);
        due(x.dealt(40), 39);
        due(x.clear(), 0);
        due(x.dealt(0), 0);
    }

    static void promise18ClearOfGreatAmounts() {
        ExactCurves x = new ExactCurves();
        x.mint(0, 0, MOST);
        x.mint(1, 1, MOST);
        for (int i = 0; i < 10; i++) {
            due(x.order(0, SELL, MOST_Q, 1000000), 2 * i);
            due(x.order(1, BUY, MOST_Q, 1000000), 2 * i + 1);
        }
        due(x.balance(1, 1), 0);
        due(x.clear(), 1000000);
        due(x.dealt(0), 10 * MOST_Q);
        due(x.balance(0, 1), MOST);
        due(x.balance(1, 0), 10 * MOST_Q);
    }

    static void promise18ClearOfOneWithItself() {
        Run self = ordered(new long[] {0, BUY, 5, 500}, new long[] {0, SELL, 5, 500});
        answers(self, x -> x.clear(), 500);
        ExactCurves x = after(both(self, y -> y.clear()));
        balances(x, 0, 10000, 9999);
        due(x.house(1), 1);
    }

    // ---- Promise 19: "BAD: none such (0 and 1: 0 before)"

    static void promise19DealtBeforeIs0() {
        Run[] runs = {NOTHING, rich(10), ordered(new long[] {0, SELL, 5, 1})};
        for (Run run : runs) {
            answersAndChangesNothing(run, x -> x.dealt(0), 0);
            answersAndChangesNothing(run, x -> x.dealt(1), 0);
            badWith(new int[] {2, 3, 41, 42}, run, (x, what) -> x.dealt(what));
        }
    }

    static void promise19DealtKnowsNothingBelow0() {
        int[] wrong = {-1, -2, Integer.MIN_VALUE, Integer.MIN_VALUE + 1};
        badWith(wrong, NOTHING, (x, what) -> x.dealt(what));
        badWith(wrong, BUSY, (x, what) -> x.dealt(what));
    }

    static void promise19DealtKnowsAsManyAsThereWere() {
        Run two = both(ordered(new long[] {0, SELL, 5, 1}, new long[] {1, BUY, 4, 1}), x -> x.clear());
        answersAndChangesNothing(two, x -> x.dealt(0), 4);
        answersAndChangesNothing(two, x -> x.dealt(1), 2);
        answersAndChangesNothing(two, x -> x.dealt(2), 4);
        answersAndChangesNothing(two, x -> x.dealt(3), 4);
        badWith(new int[] {4, 5, 41, 42, Integer.MAX_VALUE}, two, (x, what) -> x.dealt(what));
        Run forty = both(FORTY, x -> x.clear());
        answersAndChangesNothing(forty, x -> x.dealt(1), 40);
        answersAndChangesNothing(forty, x -> x.dealt(2), 1);
        answersAndChangesNothing(forty, x -> x.dealt(41), 20);
        badWith(new int[] {42, 43, Integer.MAX_VALUE}, forty, (x, what) -> x.dealt(what));
    }

    /** "Of the latest clear()", not of the one before, and not of ORDERS that wait. */
    static void promise19DealtIsOfTheLatestClear() {
        ExactCurves x = after(ordered(new long[] {0, SELL, 5, 1}, new long[] {1, BUY, 4, 1},
            new long[] {1, BUY, 9, 1}));
        x.clear();
        due(x.dealt(0), 5);
        deals(x, 5, 4, 1);
        x.order(0, SELL, 8, 1);
        x.order(1, BUY, 6, 1);
        due(x.dealt(0), 5);
        deals(x, 5, 4, 1);
        x.clear();
        due(x.dealt(0), 6);
        deals(x, 6, 6);
        x.order(0, SELL, 8, 1);
        x.clear();
        due(x.dealt(0), 0);
        deals(x, 0);
        x.clear();
        due(x.dealt(0), 0);
        deals(x);
    }

    static void promise19DealtStaysWhenTheBatchChanges() {
        ExactCurves x = after(both(ordered(new long[] {0, SELL, 5, 1}, new long[] {1, BUY, 4, 1}), y -> y.clear()));
        x.batch(2, 3);
        due(x.dealt(0), 4);
        deals(x, 4, 4);
        x.order(0, SELL, 10001, 1);
        x.order(0, SELL, 0, 1);
        due(x.dealt(0), 4);
        deals(x, 4, 4);
    }
}
