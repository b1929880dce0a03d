/** Sentences on boundaries: promises 24 to 28, and "A LOAN", "VALUE", "To PAY", "UNCOVERED", "CLOSE". */
final class LoanSentencesTest extends Sentences {
    private static final long WEALTH = 1000000;
    private static final int[] NO_LOANS_OF_2 = {-1, 2, 9, 10, Integer.MIN_VALUE, Integer.MAX_VALUE};

    public static void main(String[] args) {
        runAll(LoanSentencesTest.class, 24, 28);
    }

    /** A SUM of 1000 and 1000, in which every amount has its own VALUE; VAULTS 0 and 1 have 100 each, of PLAYER 0. */
    private static final Run LENT = both(rich(WEALTH), x -> {
        x.pool(0, 1, SUM, 0);
        x.join(0, 0, 1000, 1000);
        x.lend(0, 0, 100);
        x.lend(0, 1, 100);
    });

    /** PLAYER 1 has borrowed 60 of TOKEN 1 for a COVER of 100 of TOKEN 0. */
    private static final Run BORROWED = both(LENT, x -> x.loan(1, 0, 0, 100, 60));

    /** By the least RATE and one TICK the DEBT of 60 UNITS is 61. */
    private static final Run GROWN = both(BORROWED, x -> {
        x.rate(1, 1);
        x.tick(1);
    });

    /** After i of TOKEN 0 came for i of TOKEN 1 the VALUE of 100 is 100 (1000 - i) / (1000 + i). */
    private static Run fallen(Run run, long i) {
        return both(run, x -> x.swap(0, 0, 0, i));
    }

    /** INDEX of VAULT 1 is at its most, so that each of the UNITS is a DEBT of 1000; it has 5000. */
    private static final Run DEAREST = both(LENT, x -> {
        x.lend(0, 1, 4900);
        x.rate(1, 1000000);
        for (int i = 0; i < 7; i++) {
            x.tick(1000);
        }
    });

    private static Run ten() {
        return both(LENT, x -> {
            for (int i = 0; i < 10; i++) {
                x.loan(1, 0, 0, 10, 1 + i % 3);
            }
        });
    }

    private static void loanTells(ExactCurves x, int loan, long... want) {
        for (int what = 0; what < want.length; what++) {
            due(x.ofLoan(loan, what), want[what]);
        }
    }

    // ---- Promise 24: "BAD: PLAYER, POOL, side, c, d below 1; REFUSED: BALANCE, VAULT, cover; there are 10"

    static void promise24LoanKnowsPlayers0To5() {
        for (int player = 0; player < 6; player++) {
            ExactCurves x = after(LENT);
            x.mint(player, 0, 100);
            long one = x.balance(player, 0);
            long two = x.balance(player, 1);
            due(x.loan(player, 0, 0, 10, 6), 0);
            balances(x, player, one - 10, two + 6);
            due(x.ofLoan(0, 0), player);
        }
        badWith(NO_PLAYERS, LENT, (x, player) -> x.loan(player, 0, 0, 10, 1));
        badWith(NO_PLAYERS, BUSY, (x, player) -> x.loan(player, 0, 0, 10, 1));
    }

    static void promise24LoanKnowsThePoolsThereAre() {
        answers(BUSY, x -> x.loan(1, 1, 0, 100, 10), 2);
        badWith(NO_POOLS_OF_2, BUSY, (x, pool) -> x.loan(1, pool, 0, 100, 10));
        bad(rich(10), x -> x.loan(0, 0, 0, 5, 1));
    }

    static void promise24LoanKnowsSides0And1() {
        ExactCurves x = after(LENT);
        due(x.loan(1, 0, 0, 10, 6), 0);
        balances(x, 1, WEALTH - 10, WEALTH + 6);
        due(x.vault(0, 0), 100);
        due(x.vault(1, 0), 94);
        due(x.loan(1, 0, 1, 20, 12), 1);
        balances(x, 1, WEALTH - 10 + 12, WEALTH + 6 - 20);
        due(x.vault(0, 0), 88);
        due(x.vault(1, 0), 94);
        badWith(NO_SIDES, LENT, (y, side) -> y.loan(1, 0, side, 10, 1));
        badWith(NO_SIDES, BUSY, (y, side) -> y.loan(1, 0, side, 10, 1));
    }

    static void promise24LoanTakes1OfCoverAndNotLess() {
        // VALUE(1) is 2 in a POOL of 1000 and 2000, enough for 1.
        Run twice = both(LENT, x -> {
            x.pool(0, 1, PRODUCT, 0);
            x.join(0, 1, 1000, 2000);
        });
        answers(twice, x -> x.loan(1, 1, 0, 1, 1), 0);
        badWith(BELOW_ONE, twice, (x, c) -> x.loan(1, 1, 0, c, 1));
        badWith(BELOW_ONE, BUSY, (x, c) -> x.loan(1, 0, 0, c, 1));
    }

    static void promise24LoanIsOf1AndNotLess() {
        answers(LENT, x -> x.loan(1, 0, 0, 10, 1), 0);
        badWith(BELOW_ONE, LENT, (x, d) -> x.loan(1, 0, 0, 10, d));
        badWith(BELOW_ONE, LENT, (x, each) -> x.loan(1, 0, 0, each, each));
        badWith(BELOW_ONE, BUSY, (x, d) -> x.loan(1, 0, 0, 10, d));
    }

    static void promise24LoanNeedsABalanceOfItsCover() {
        Run has = both(LENT, x -> x.mint(2, 0, 50));
        answers(has, x -> x.loan(2, 0, 0, 50, 1), 0);
        refusedWith(new long[] {51, MOST, Long.MAX_VALUE}, has, (x, c) -> x.loan(2, 0, 0, c, 1));
        refused(has, x -> x.loan(2, 0, 1, 10, 1));
        refused(has, x -> x.loan(3, 0, 0, 10, 1));
        Run hasOther = both(LENT, x -> x.mint(2, 1, 50));
        answers(hasOther, x -> x.loan(2, 0, 1, 50, 1), 0);
        refused(hasOther, x -> x.loan(2, 0, 1, 51, 1));
    }

    static void promise24LoanNeedsAVaultThatHasIt() {
        answers(LENT, x -> x.loan(1, 0, 0, 1000, 100), 0);
        refusedWith(new long[] {101, MOST, Long.MAX_VALUE}, LENT, (x, d) -> x.loan(1, 0, 0, 1000, d));
        answers(LENT, x -> x.loan(1, 0, 1, 1000, 100), 0);
        refused(LENT, x -> x.loan(1, 0, 1, 1000, 101));
        answers(BORROWED, x -> x.loan(1, 0, 0, 1000, 40), 1);
        refused(BORROWED, x -> x.loan(1, 0, 0, 1000, 41));
        Run empty = both(rich(WEALTH), x -> {
            x.pool(0, 1, SUM, 0);
            x.join(0, 0, 1000, 1000);
        });
        refused(empty, x -> x.loan(1, 0, 0, 1000, 1));
    }

    /** "It may be taken if 100 d is not above 60 VALUE(c)." */
    static void promise24LoanMayBeJustCovered() {
        answers(LENT, x -> x.loan(1, 0, 0, 100, 60), 0);
        refused(LENT, x -> x.loan(1, 0, 0, 100, 61));
        refused(LENT, x -> x.loan(1, 0, 0, 99, 60));
        answers(LENT, x -> x.loan(1, 0, 0, 5, 3), 0);
        refused(LENT, x -> x.loan(1, 0, 0, 5, 4));
        refused(LENT, x -> x.loan(1, 0, 0, 4, 3));
        answers(LENT, x -> x.loan(1, 0, 0, 2, 1), 0);
        refused(LENT, x -> x.loan(1, 0, 0, 2, 2));
        refused(LENT, x -> x.loan(1, 0, 0, 1, 1));
        answers(LENT, x -> x.loan(1, 0, 1, 100, 60), 0);
        refused(LENT, x -> x.loan(1, 0, 1, 100, 61));
    }

    /** "c times the RESERVE of that one / the RESERVE of this", cut off. */
    static void promise24LoanIsByAValueCutOff() {
        Run odd = both(LENT, x -> {
            x.pool(0, 1, PRODUCT, 0);
            x.join(0, 1, 3, 2);
        });
        // VALUE of 2 of SIDE 0 is 4 / 3 = 1, that of 3 is 2: 120 against 100.
        refused(odd, x -> x.loan(1, 1, 0, 2, 1));
        answers(odd, x -> x.loan(1, 1, 0, 3, 1), 0);
        // VALUE of 1 of SIDE 1 is 3 / 2 = 1, that of 2 is 3: 180 against 100 and 200.
        refused(odd, x -> x.loan(1, 1, 1, 1, 1));
        answers(odd, x -> x.loan(1, 1, 1, 2, 1), 0);
        refused(odd, x -> x.loan(1, 1, 1, 2, 2));
    }

    /** "(either way round)" */
    static void promise24LoanMayNameAPoolTheOtherWayRound() {
        Run turned = both(LENT, x -> {
            x.pool(1, 0, PRODUCT, 0);
            x.join(0, 1, 200, 100);
        });
        // In POOL 1 TOKEN 0 is of SIDE 1: VALUE of 10 is 20.
        answers(turned, x -> x.loan(1, 1, 1, 10, 12), 0);
        refused(turned, x -> x.loan(1, 1, 1, 10, 13));
        ExactCurves x = after(both(turned, y -> y.loan(1, 1, 1, 10, 12)));
        balances(x, 1, WEALTH - 10, WEALTH + 12);
        loanTells(x, 0, 1, 1, 1, 10, 12, 12, 20, 0);
    }

    /** "(0 if there is none of this)", and 0 as well if there is none of that. */
    static void promise24LoanWithoutReservesIsRefused() {
        Run noneOf1 = fallen(LENT, 1000);
        refused(noneOf1, x -> x.loan(1, 0, 0, 100, 1));
        refused(noneOf1, x -> x.loan(1, 0, 1, 100, 1));
        Run noneOf0 = both(LENT, x -> x.swap(0, 0, 1, 1000));
        refused(noneOf0, x -> x.loan(1, 0, 0, 100, 1));
        refused(noneOf0, x -> x.loan(1, 0, 1, 100, 1));
        Run empty = both(LENT, x -> x.leave(0, 0, 2000));
        refused(empty, x -> x.loan(1, 0, 0, 100, 1));
        refused(empty, x -> x.loan(1, 0, 1, 100, 1));
    }

    /** "A LOAN (10 at most that are not closed)" */
    static void promise24LoanNumbersAre0To9() {
        ExactCurves x = after(LENT);
        for (int i = 0; i < 10; i++) {
            due(x.count(2), i);
            due(x.loan(1, 0, 0, 10, 1), i);
        }
        due(x.count(2), 10);
        due(x.ofLoan(9, 3), 10);
    }

    static void promise24LoanEleventhIsRefused() {
        refused(ten(), x -> x.loan(1, 0, 0, 10, 1));
        refused(ten(), x -> x.loan(0, 0, 1, 10, 1));
        bad(ten(), x -> x.loan(1, 0, 0, 10, 0));
        bad(ten(), x -> x.loan(6, 0, 0, 10, 1));
        answers(both(ten(), x -> x.pay(1, 9, 1)), x -> x.loan(1, 0, 0, 10, 1), 9);
    }

    /** "the least that is free" */
    static void promise24LoanTakesTheLeastFreeNumber() {
        ExactCurves x = after(ten());
        x.pay(1, 7, 5);
        x.pay(1, 2, 5);
        x.pay(1, 4, 5);
        due(x.count(2), 7);
        due(x.loan(1, 0, 0, 10, 1), 2);
        due(x.loan(1, 0, 0, 10, 1), 4);
        due(x.loan(1, 0, 0, 10, 1), 7);
        due(x.loan(1, 0, 0, 10, 1), REFUSED);
        x.swap(0, 0, 0, 1000);
        due(x.close(0, 0), 10);
        x.swap(0, 0, 1, 1000);
        due(x.loan(1, 0, 0, 10, 1), 0);
    }

    /** "UNITS being d 10^9 // INDEX at first" */
    static void promise24LoanHasUnitsRoundedUp() {
        ExactCurves x = after(LENT);
        due(x.loan(1, 0, 0, 100, 60), 0);
        loanTells(x, 0, 1, 0, 0, 100, 60, 60, 100, 0);
        x.rate(1, 1);
        x.tick(1);
        // 10^9 // 1000000001 = 1 UNIT, which is a DEBT of 2 at once; 10 10^9 // 1000000001 = 10, 11.
        due(x.loan(1, 0, 0, 50, 1), 1);
        loanTells(x, 1, 1, 0, 0, 50, 1, 2, 50, 0);
        due(x.loan(1, 0, 0, 50, 10), 2);
        loanTells(x, 2, 1, 0, 0, 50, 10, 11, 50, 0);
        due(x.balance(1, 1), WEALTH + 60 + 1 + 10);
        ExactCurves y = after(LENT);
        y.rate(1, 1000000);
        y.tick(1);
        // 10 10^9 // 1001000000 = 9.99, rounded up: 10, of which 10.01 are due.
        due(y.loan(1, 0, 0, 50, 10), 0);
        loanTells(y, 0, 1, 0, 0, 50, 10, 11, 50, 0);
    }

    static void promise24LoanHasUnitsByTheGreatestIndex() {
        due(after(DEAREST).vault(1, 3), 1000000000000L);
        long[][] rows = {{1, 1, 1000}, {999, 1, 1000}, {1000, 1, 1000}, {1001, 2, 2000}, {2000, 2, 2000},
            {2001, 3, 3000}, {5000, 5, 5000}};
        for (long[] row : rows) {
            ExactCurves x = after(DEAREST);
            due(x.loan(1, 0, 0, 10000, row[0]), 0);
            loanTells(x, 0, 1, 0, 0, 10000, row[1], row[2], 10000, 0);
            due(x.balance(1, 1), WEALTH + row[0]);
            due(x.vault(1, 0), 5000 - row[0]);
            due(x.vault(1, 1), 5000 - row[0] + row[2]);
        }
    }

    /** d and not the DEBT is held against 60 VALUE: a LOAN may be UNCOVERED as soon as it is taken. */
    static void promise24LoanIsCoveredByWhatIsTakenAndNotByItsDebt() {
        answers(DEAREST, x -> x.loan(1, 0, 0, 2, 1), 0);
        refused(DEAREST, x -> x.loan(1, 0, 0, 1, 1));
        answers(both(DEAREST, x -> x.loan(1, 0, 0, 2, 1)), x -> x.ofLoan(0, 7), 1);
        answers(both(DEAREST, x -> x.loan(1, 0, 0, 2, 1)), x -> x.close(0, 0), 2);
    }

    // ---- Promise 25: "what = 0 PLAYER .. 7 whether it is UNCOVERED. BAD: none such."

    static void promise25OfLoanKnowsWhat0To7() {
        long[] want = {1, 0, 0, 100, 60, 61, 100, 0};
        for (int i = 0; i < 8; i++) {
            int what = i;
            answersAndChangesNothing(GROWN, x -> x.ofLoan(0, what), want[what]);
        }
        int[] wrong = {-1, 8, Integer.MIN_VALUE, Integer.MAX_VALUE};
        badWith(wrong, GROWN, (x, what) -> x.ofLoan(0, what));
        badWith(wrong, BUSY, (x, what) -> x.ofLoan(1, what));
    }

    static void promise25OfLoanKnowsTheLoansThereAre() {
        answersAndChangesNothing(BUSY, x -> x.ofLoan(0, 0), 1);
        answersAndChangesNothing(BUSY, x -> x.ofLoan(1, 0), 5);
        for (int i = 0; i < 8; i++) {
            int what = i;
            badWith(NO_LOANS_OF_2, BUSY, (x, loan) -> x.ofLoan(loan, what));
        }
        answersAndChangesNothing(ten(), x -> x.ofLoan(9, 5), 1);
        bad(ten(), x -> x.ofLoan(10, 5));
        bad(NOTHING, x -> x.ofLoan(0, 0));
    }

    static void promise25OfLoanOfAClosedOneIsBad() {
        Run paid = both(BORROWED, x -> x.pay(1, 0, 60));
        Run closed = both(fallen(BORROWED, 143), x -> x.close(0, 0));
        for (int i = 0; i < 8; i++) {
            int what = i;
            bad(paid, x -> x.ofLoan(0, what));
            bad(closed, x -> x.ofLoan(0, what));
        }
    }

    /** "10^18 at most" */
    static void promise25OfLoanTellsAValueOf10To18AtMost() {
        // VALUE is c times 5 10^13.
        long[][] rows = {{19999, 999950000000000000L}, {20000, 1000000000000000000L}, {20001, 1000000000000000000L},
            {MOST / 2 - 1, 1000000000000000000L}};
        for (long[] row : rows) {
            Run steep = both(rich(MOST / 2), x -> {
                x.pool(0, 1, PRODUCT, 0);
                x.join(0, 0, 1, MOST / 2);
                x.lend(1, 1, 10);
                x.loan(1, 0, 0, row[0], 10);
            });
            answersAndChangesNothing(steep, x -> x.ofLoan(0, 6), row[1]);
            answersAndChangesNothing(steep, x -> x.ofLoan(0, 7), 0);
        }
    }

    static void promise25OfLoanTellsAValueOf0WithoutReserves() {
        Run[] runs = {fallen(BORROWED, 1000), both(BORROWED, x -> x.swap(0, 0, 1, 1000)),
            both(BORROWED, x -> x.leave(0, 0, 2000))};
        for (Run run : runs) {
            answersAndChangesNothing(run, x -> x.ofLoan(0, 6), 0);
            answersAndChangesNothing(run, x -> x.ofLoan(0, 7), 1);
        }
    }

    static void promise25OfLoanTellsTheValueOfNow() {
        ExactCurves x = after(BORROWED);
        due(x.ofLoan(0, 6), 100);
        x.swap(0, 0, 1, 500);
        due(x.ofLoan(0, 6), 300);
        x.swap(0, 0, 0, 500);
        due(x.ofLoan(0, 6), 100);
        x.swap(0, 0, 0, 1);
        // 100 999 / 1001 = 99.8.
        due(x.ofLoan(0, 6), 99);
    }

    /** "UNCOVERED if 100 DEBT is above 80 VALUE(c)", by a VALUE that falls. */
    static void promise25OfLoanIsUncoveredOnlyAbove80() {
        // 100 858 / 1142 = 75.1: 6000 is not above 6000. 100 857 / 1143 = 74.9: it is above 5920.
        answersAndChangesNothing(fallen(BORROWED, 142), x -> x.ofLoan(0, 6), 75);
        answersAndChangesNothing(fallen(BORROWED, 142), x -> x.ofLoan(0, 7), 0);
        answersAndChangesNothing(fallen(BORROWED, 143), x -> x.ofLoan(0, 6), 74);
        answersAndChangesNothing(fallen(BORROWED, 143), x -> x.ofLoan(0, 7), 1);
    }

    /** The same by a DEBT that grows: "UNITS times INDEX // 10^9" */
    static void promise25OfLoanIsUncoveredByADebtThatGrows() {
        // 60 UNITS by 1.001 to the 287th are 79.9, to the 288th 80.01.
        Run even = both(BORROWED, x -> {
            x.rate(1, 1000000);
            x.tick(287);
        });
        answersAndChangesNothing(even, x -> x.ofLoan(0, 5), 80);
        answersAndChangesNothing(even, x -> x.ofLoan(0, 7), 0);
        Run above = both(even, x -> x.tick(1));
        answersAndChangesNothing(above, x -> x.ofLoan(0, 5), 81);
        answersAndChangesNothing(above, x -> x.ofLoan(0, 7), 1);
        answersAndChangesNothing(above, x -> x.ofLoan(0, 4), 60);
    }

    static void promise25OfLoanTellsADebtOfTheGreatestIndex() {
        Run great = both(rich(MOST / 2), x -> {
            x.pool(0, 1, PRODUCT, 0);
            x.join(0, 0, 1, MOST / 2);
            x.lend(1, 1, MOST / 2);
            x.loan(1, 0, 0, MOST / 4, MOST / 2);
            x.rate(1, 1000000);
            for (int i = 0; i < 7; i++) {
                x.tick(1000);
            }
        });
        answersAndChangesNothing(great, x -> x.ofLoan(0, 4), MOST / 2);
        answersAndChangesNothing(great, x -> x.ofLoan(0, 5), 500 * MOST);
        answersAndChangesNothing(great, x -> x.ofLoan(0, 7), 0);
    }

    // ---- Promise 26: "BAD: PLAYER, LOAN, m below 1; REFUSED: BALANCE is less than what would be taken"

    static void promise26PayKnowsPlayers0To5() {
        for (int player = 0; player < 6; player++) {
            ExactCurves x = after(BORROWED);
            x.mint(player, 1, 100);
            long before = x.balance(player, 1);
            due(x.pay(player, 0, 20), 20);
            due(x.balance(player, 1), before - 20);
            due(x.ofLoan(0, 5), 40);
            due(x.ofLoan(0, 0), 1);
        }
        badWith(NO_PLAYERS, BORROWED, (x, player) -> x.pay(player, 0, 1));
        badWith(NO_PLAYERS, BUSY, (x, player) -> x.pay(player, 0, 1));
    }

    static void promise26PayKnowsTheLoansThereAre() {
        answers(BUSY, x -> x.pay(1, 1, 1), 1);
        badWith(NO_LOANS_OF_2, BUSY, (x, loan) -> x.pay(1, loan, 1));
        bad(rich(10), x -> x.pay(0, 0, 1));
        answers(ten(), x -> x.pay(1, 9, 1), 1);
        bad(ten(), x -> x.pay(1, 10, 1));
    }

    static void promise26PayForAClosedLoanIsBad() {
        bad(both(BORROWED, x -> x.pay(1, 0, 60)), x -> x.pay(1, 0, 1));
        bad(both(fallen(BORROWED, 143), x -> x.close(0, 0)), x -> x.pay(1, 0, 1));
    }

    static void promise26PayTakes1AndNotLess() {
        answers(BORROWED, x -> x.pay(1, 0, 1), 1);
        badWith(BELOW_ONE, BORROWED, (x, m) -> x.pay(1, 0, m));
        badWith(BELOW_ONE, BUSY, (x, m) -> x.pay(1, 0, m));
    }

    /** "DEBT at most is taken" */
    static void promise26PayTakesTheDebtAtMost() {
        answers(GROWN, x -> x.pay(1, 0, 60), 60);
        answers(GROWN, x -> x.pay(1, 0, 61), 61);
        answers(GROWN, x -> x.pay(1, 0, 62), 61);
        answers(GROWN, x -> x.pay(1, 0, MOST + 1), 61);
        answers(GROWN, x -> x.pay(1, 0, Long.MAX_VALUE), 61);
        ExactCurves x = after(both(GROWN, y -> y.pay(1, 0, Long.MAX_VALUE)));
        balances(x, 1, WEALTH, WEALTH + 60 - 61);
        due(x.vault(1, 0), 101);
    }

    static void promise26PayNeedsABalanceOfWhatIsTaken() {
        Run has60 = both(GROWN, x -> x.mint(5, 1, 60));
        answers(has60, x -> x.pay(5, 0, 60), 60);
        refusedWith(new long[] {61, 62, Long.MAX_VALUE}, has60, (x, m) -> x.pay(5, 0, m));
        Run has61 = both(GROWN, x -> x.mint(5, 1, 61));
        answers(has61, x -> x.pay(5, 0, 61), 61);
        answers(has61, x -> x.pay(5, 0, Long.MAX_VALUE), 61);
        refused(GROWN, x -> x.pay(5, 0, 1));
    }

    /** "UNITS become what is left 10^9 // INDEX" */
    static void promise26PayRoundsUpTheUnitsThatAreLeft() {
        // 60 left are 59.9 by INDEX: 60 UNITS, so the DEBT is 61 as before.
        ExactCurves x = after(both(GROWN, y -> y.pay(1, 0, 1)));
        loanTells(x, 0, 1, 0, 0, 100, 60, 61);
        due(x.vault(1, 0), 41);
        due(x.vault(1, 1), 102);
        due(x.pay(1, 0, 2), 2);
        loanTells(x, 0, 1, 0, 0, 100, 59, 60);
        due(x.pay(1, 0, 59), 59);
        // The last one is 1 UNIT and a DEBT of 2.
        loanTells(x, 0, 1, 0, 0, 100, 1, 2);
        due(x.count(2), 1);
        due(x.pay(1, 0, 1), 1);
        loanTells(x, 0, 1, 0, 0, 100, 1, 2);
        due(x.pay(1, 0, 2), 2);
        due(x.count(2), 0);
    }

    static void promise26PayRoundsUpByTheGreatestIndex() {
        ExactCurves x = after(both(DEAREST, y -> y.loan(1, 0, 0, 10000, 5000)));
        long[][] rows = {{1, 5, 5000}, {999, 5, 5000}, {1000, 4, 4000}, {1001, 3, 3000}, {1999, 2, 2000},
            {1999, 1, 1000}, {999, 1, 1000}};
        for (long[] row : rows) {
            due(x.pay(1, 0, row[0]), row[0]);
            due(x.ofLoan(0, 4), row[1]);
            due(x.ofLoan(0, 5), row[2]);
        }
        due(x.pay(1, 0, 1000), 1000);
        due(x.ofLoan(0, 4), BAD);
    }

    /** "with DEBT 0 the COVER goes back and it is closed" */
    static void promise26PayOfAllGivesTheCoverBack() {
        ExactCurves x = after(BORROWED);
        due(x.pay(1, 0, 59), 59);
        loanTells(x, 0, 1, 0, 0, 100, 1, 1);
        balances(x, 1, WEALTH - 100, WEALTH + 1);
        due(x.pay(1, 0, 1), 1);
        due(x.ofLoan(0, 0), BAD);
        due(x.count(2), 0);
        balances(x, 1, WEALTH, WEALTH);
        due(x.vault(1, 0), 100);
        due(x.vault(1, 1), 100);
    }

    /** Another PLAYER may pay; the COVER goes to who took the LOAN. */
    static void promise26PayByAnotherGivesTheCoverToWhoTookIt() {
        ExactCurves x = after(both(BORROWED, y -> y.mint(5, 1, 60)));
        due(x.pay(5, 0, 60), 60);
        balances(x, 5, 0, 0);
        balances(x, 1, WEALTH, WEALTH + 60);
    }

    /** An UNCOVERED LOAN may be paid as well. */
    static void promise26PayForAnUncoveredLoan() {
        ExactCurves x = after(fallen(BORROWED, 143));
        due(x.pay(1, 0, 1), 1);
        // 59 against 0.8 74 = 59.2.
        due(x.ofLoan(0, 7), 0);
        due(x.pay(1, 0, 100), 59);
        balances(x, 1, WEALTH, WEALTH);
    }

    // ---- Promise 27: "BAD; REFUSED: it is not UNCOVERED; BALANCE."

    static void promise27CloseKnowsPlayers0To5() {
        for (int player = 0; player < 6; player++) {
            ExactCurves x = after(fallen(BORROWED, 143));
            x.mint(player, 1, 60);
            long before = x.balance(player, 1);
            due(x.close(player, 0), 85);
            due(x.balance(player, 1), before - 60);
        }
        badWith(NO_PLAYERS, fallen(BORROWED, 143), (x, player) -> x.close(player, 0));
        badWith(NO_PLAYERS, BUSY, (x, player) -> x.close(player, 0));
    }

    static void promise27CloseKnowsTheLoansThereAre() {
        badWith(NO_LOANS_OF_2, BUSY, (x, loan) -> x.close(0, loan));
        badWith(new int[] {-1, 1, 9, 10}, fallen(BORROWED, 143), (x, loan) -> x.close(0, loan));
        Run ten = fallen(ten(), 1000);
        answers(ten, x -> x.close(0, 9), 10);
        bad(ten, x -> x.close(0, 10));
        bad(rich(10), x -> x.close(0, 0));
    }

    static void promise27CloseAClosedLoanIsBad() {
        bad(both(BORROWED, x -> x.pay(1, 0, 60)), x -> x.close(0, 0));
        bad(both(fallen(BORROWED, 143), x -> x.close(0, 0)), x -> x.close(0, 0));
    }

    /** "UNCOVERED if 100 DEBT is above 80 VALUE(c)" */
    static void promise27CloseACoveredLoanIsRefused() {
        refused(BORROWED, x -> x.close(0, 0));
        refused(fallen(BORROWED, 142), x -> x.close(0, 0));
        refused(fallen(BORROWED, 142), x -> x.close(1, 0));
        answers(fallen(BORROWED, 143), x -> x.close(0, 0), 85);
        Run even = both(BORROWED, x -> {
            x.rate(1, 1000000);
            x.tick(287);
        });
        refused(even, x -> x.close(0, 0));
        // 81 105 // 100 = 85.05 rounded up to 86.
        answers(both(even, x -> x.tick(1)), x -> x.close(0, 0), 86);
    }

    static void promise27CloseNeedsABalanceOfTheDebt() {
        Run fallen = fallen(BORROWED, 143);
        refused(fallen, x -> x.close(5, 0));
        refused(both(fallen, x -> x.mint(5, 1, 59)), x -> x.close(5, 0));
        Run has = both(fallen, x -> x.mint(5, 1, 60));
        answers(has, x -> x.close(5, 0), 85);
        ExactCurves x = after(both(has, y -> y.close(5, 0)));
        balances(x, 5, 85, 0);
        balances(x, 1, WEALTH - 85, WEALTH + 60);
        due(x.vault(1, 0), 100);
        due(x.vault(1, 1), 100);
        due(x.count(2), 0);
    }

    /** "(who took it may, too)" */
    static void promise27CloseByWhoTookIt() {
        Run fallen = fallen(BORROWED, 143);
        answers(fallen, x -> x.close(1, 0), 85);
        ExactCurves x = after(both(fallen, y -> y.close(1, 0)));
        balances(x, 1, WEALTH, WEALTH);
        // Without the 60 that it borrowed it may not.
        refused(both(fallen, y -> y.lend(1, 1, WEALTH + 1)), y -> y.close(1, 0));
        answers(both(fallen, y -> y.lend(1, 1, WEALTH)), y -> y.close(1, 0), 85);
    }

    /** "gets of the COVER the least amount whose VALUE is DEBT 105 // 100 or more" */
    static void promise27CloseGetsTheLeastThatIsWorthIt() {
        // 60 105 // 100 = 63: 84 857 / 1143 = 62.9, 85 857 / 1143 = 63.7.
        answers(fallen(BORROWED, 143), x -> x.close(0, 0), 85);
        // 98 780 / 1220 = 62.6, 99 780 / 1220 = 63.2.
        answers(fallen(BORROWED, 220), x -> x.close(0, 0), 99);
        // 61 105 // 100 = 64.05 rounded up to 65: 86 857 / 1143 = 64.4, 87 857 / 1143 = 65.2.
        answers(fallen(GROWN, 143), x -> x.close(0, 0), 87);
    }

    static void promise27CloseGetsWhatIsWorthItWithoutARest() {
        // 1000 1000 / 2000 = 500: 1 of TOKEN 1 for 4 of TOKEN 0; 20 105 // 100 = 21, the VALUE of 84.
        Run even = both(rich(WEALTH), x -> {
            x.pool(0, 1, PRODUCT, 0);
            x.join(0, 0, 1000, 1000);
            x.lend(0, 1, 1000);
            x.loan(1, 0, 0, 90, 20);
            x.swap(0, 0, 0, 1000);
        });
        answersAndChangesNothing(even, x -> x.ofLoan(0, 6), 22);
        answers(even, x -> x.close(0, 0), 84);
    }

    /** "or all; the rest goes to who took it" */
    static void promise27CloseGetsAllAtMost() {
        // 100 774 / 1226 = 63.1, 99 774 / 1226 = 62.5: all of it is the least. 100 773 / 1227 = 62.9: not enough.
        for (long i : new long[] {226, 227, 500, 999, 1000}) {
            Run fallen = fallen(BORROWED, i);
            answers(fallen, x -> x.close(0, 0), 100);
            ExactCurves x = after(both(fallen, y -> y.close(0, 0)));
            due(x.balance(1, 0), WEALTH - 100);
            due(x.balance(1, 1), WEALTH + 60);
            due(x.vault(1, 0), 100);
        }
    }

    /** VALUE is 0 without RESERVES: no amount is worth the DEBT, so all goes. */
    static void promise27CloseWithoutReservesGetsAll() {
        Run[] runs = {fallen(BORROWED, 1000), both(BORROWED, x -> x.swap(0, 0, 1, 1000)),
            both(BORROWED, x -> x.leave(0, 0, 2000))};
        for (Run run : runs) {
            answers(run, x -> x.close(0, 0), 100);
            ExactCurves x = after(both(run, y -> y.close(0, 0)));
            due(x.balance(1, 0), WEALTH - 100);
            due(x.vault(1, 0), 100);
            due(x.count(2), 0);
        }
    }

    /** The amount that would be worth the DEBT is greater than a word holds. */
    static void promise27CloseOfACoverWorthNextToNothingGetsAll() {
        Run run = both(rich(MOST / 2), x -> {
            x.pool(0, 1, SUM, 0);
            x.join(0, 0, 1000000, 1000000);
            x.lend(1, 1, 1000000);
            x.loan(1, 0, 0, 1000000, 500000);
            x.swap(0, 0, 0, 999999);
            x.flash(0, 0, 1, 0, MOST / 4, 0);
        });
        ExactCurves x = after(run);
        reserves(x, 0, MOST / 4 + 1999998, 1, 2000000);
        due(x.ofLoan(0, 7), 1);
        // 525000 (2.5 10^13 + 1999998) is above 2^63.
        due(x.close(0, 0), 1000000);
        due(x.balance(1, 0), MOST / 2 - 1000000);
        due(x.vault(1, 0), 1000000);
    }

    static void promise27CloseOfSide1() {
        Run run = both(LENT, x -> {
            x.loan(1, 0, 1, 100, 60);
            x.swap(0, 0, 1, 143);
        });
        answers(run, x -> x.close(0, 0), 85);
        ExactCurves x = after(both(run, y -> y.close(0, 0)));
        balances(x, 1, WEALTH + 60, WEALTH - 85);
        due(x.vault(0, 0), 100);
        refused(both(LENT, y -> {
            y.loan(1, 0, 1, 100, 60);
            y.swap(0, 0, 1, 142);
        }), y -> y.close(0, 0));
    }

    /** A DEBT that is far greater than any BALANCE can be. */
    static void promise27CloseOfAGreatDebtIsRefused() {
        Run great = both(rich(MOST / 2), x -> {
            x.pool(0, 1, SUM, 0);
            x.join(0, 0, MOST / 4, MOST / 4);
            x.lend(1, 1, MOST / 4);
            x.loan(1, 0, 0, MOST / 4, MOST / 10);
            x.rate(1, 1000000);
            for (int i = 0; i < 7; i++) {
                x.tick(1000);
            }
        });
        answersAndChangesNothing(great, x -> x.ofLoan(0, 7), 1);
        refused(great, x -> x.close(0, 0));
        refused(great, x -> x.close(1, 0));
    }

    // ---- Promise 28: "what = 0 POOLS, 1 ORDERS, 2 LOANS, 3 THE CLOCK. BAD."

    static void promise28CountKnowsWhat0To3() {
        int[] want = {2, 3, 2, 37};
        for (int i = 0; i < 4; i++) {
            int what = i;
            answersAndChangesNothing(BUSY, x -> x.count(what), want[what]);
            answersAndChangesNothing(NOTHING, x -> x.count(what), 0);
        }
        badWith(new int[] {-1, 4, Integer.MIN_VALUE, Integer.MAX_VALUE}, BUSY, (x, what) -> x.count(what));
    }

    static void promise28CountOfPoolsIsUpTo6() {
        ExactCurves x = new ExactCurves();
        for (int i = 1; i <= 6; i++) {
            x.pool(0, 1, SUM, 0);
            due(x.count(0), i);
        }
        x.pool(0, 1, SUM, 0);
        due(x.count(0), 6);
    }

    static void promise28CountOfOrdersIsUpTo40() {
        ExactCurves x = after(rich(100));
        for (int i = 1; i <= 40; i++) {
            x.order(0, SELL, 1, 1);
            due(x.count(1), i);
        }
        x.order(0, SELL, 1, 1);
        due(x.count(1), 40);
        x.clear();
        due(x.count(1), 0);
    }

    /** Only LOANS "that are not closed" count. */
    static void promise28CountOfLoansIsUpTo10() {
        ExactCurves x = after(ten());
        due(x.count(2), 10);
        x.loan(1, 0, 0, 10, 1);
        due(x.count(2), 10);
        x.pay(1, 3, 5);
        due(x.count(2), 9);
        x.swap(0, 0, 0, 1000);
        x.close(0, 9);
        due(x.count(2), 8);
        x.close(0, 9);
        due(x.count(2), 8);
    }

    static void promise28CountOfTheClockIsByTicks() {
        ExactCurves x = new ExactCurves();
        x.tick(1000);
        x.tick(0);
        x.tick(1001);
        x.tick(-1);
        x.tick(5);
        due(x.count(3), 1005);
    }
}
