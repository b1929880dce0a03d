/** Sentences on boundaries: promises 1 to 5, and "TOKENS 0 .. 3, PLAYERS 0 .. 5 with BALANCES". */
final class TokenSentencesTest extends Sentences {
    public static void main(String[] args) {
        runAll(TokenSentencesTest.class, 1, 5);
    }

    // ---- Promise 1: "No amounts, POOLS, ORDERS, LOANS; RATES 0; THE CLOCK 0."

    static void promise01NewObjectHasNoAmounts() {
        ExactCurves x = new ExactCurves();
        for (int token = 0; token < 4; token++) {
            for (int player = 0; player < 6; player++) {
                due(x.balance(player, token), 0);
                due(x.vault(token, 5 + player), 0);
            }
            due(x.total(token), 0);
            due(x.house(token), 0);
            due(x.vault(token, 0), 0);
            due(x.vault(token, 1), 0);
            due(x.vault(token, 2), 0);
        }
    }

    static void promise01NewObjectHasNoPools() {
        ExactCurves x = new ExactCurves();
        due(x.count(0), 0);
        for (int pool = 0; pool < 6; pool++) {
            for (int what = 0; what < 15; what++) {
                due(x.of(pool, what), BAD);
            }
        }
    }

    static void promise01NewObjectHasNoPoolToUse() {
        Run some = rich(1000);
        bad(some, x -> x.join(0, 0, 1, 1));
        bad(some, x -> x.leave(0, 0, 1));
        bad(some, x -> x.swap(0, 0, 0, 1));
        bad(some, x -> x.quote(0, 0, 1));
        bad(some, x -> x.flash(0, 0, 1, 0, 1, 0));
        bad(some, x -> x.mark(0, 0));
        bad(some, x -> x.loan(0, 0, 0, 1, 1));
    }

    static void promise01NewObjectHasNoOrders() {
        ExactCurves x = new ExactCurves();
        due(x.count(1), 0);
        due(x.dealt(0), 0);
        due(x.dealt(1), 0);
        due(x.dealt(2), BAD);
        due(x.clear(), 0);
    }

    static void promise01NewObjectHasNoLoans() {
        ExactCurves x = new ExactCurves();
        due(x.count(2), 0);
        for (int loan = 0; loan < 10; loan++) {
            due(x.ofLoan(loan, 0), BAD);
        }
        bad(rich(10), y -> y.pay(0, 0, 1));
        bad(rich(10), y -> y.close(0, 0));
    }

    static void promise01NewObjectHasNoMarks() {
        for (int k = 0; k < 8; k++) {
            int mark = k;
            bad(NOTHING, x -> x.mean(mark));
        }
    }

    static void promise01NewObjectHasRatesOf0() {
        ExactCurves x = new ExactCurves();
        for (int token = 0; token < 4; token++) {
            due(x.vault(token, 4), 0);
        }
        x.tick(1000);
        for (int token = 0; token < 4; token++) {
            due(x.vault(token, 3), 1000000000);
            due(x.rate(token, 9), 0);
        }
    }

    static void promise01NewObjectHasItsClockAt0() {
        ExactCurves x = new ExactCurves();
        due(x.count(3), 0);
        due(x.tick(0), 0);
        due(x.tick(1), 1);
    }

    static void promise01NewObjectSharesNothingWithAnother() {
        ExactCurves x = new ExactCurves();
        ExactCurves other = after(BUSY);
        due(other.count(0), 2);
        due(Told.by(x).equals(Told.by(new ExactCurves())) ? 1 : 0, 1);
    }

    /** "An object is used for at most 512 calls": the last of them is still exact. */
    static void promise01NewObjectIsGoodFor512Calls() {
        ExactCurves x = new ExactCurves();
        for (int i = 1; i <= 511; i++) {
            due(x.tick(1000), 1000L * i);
        }
        due(x.count(3), 511000);
    }

    // ---- Promise 2: "amount (1 .. 10^14)", "REFUSED: there would be more than 10^14 of it"

    static void promise02MintTakes1AndNotLess() {
        answers(NOTHING, x -> x.mint(0, 0, 1), 1);
        badWith(BELOW_ONE, NOTHING, (x, amount) -> x.mint(0, 0, amount));
        badWith(BELOW_ONE, BUSY, (x, amount) -> x.mint(0, 0, amount));
    }

    static void promise02MintTakes10To14AndNotMore() {
        answers(NOTHING, x -> x.mint(0, 0, MOST), MOST);
        long[] wrong = {MOST + 1, MOST + 4294967296L, Long.MAX_VALUE};
        badWith(wrong, NOTHING, (x, amount) -> x.mint(0, 0, amount));
        badWith(wrong, x -> x.mint(0, 0, MOST), (x, amount) -> x.mint(0, 0, amount));
    }

    static void promise02MintKnowsPlayers0To5() {
        for (int player = 0; player < 6; player++) {
            ExactCurves x = new ExactCurves();
            due(x.mint(player, 2, 9), 9);
            for (int other = 0; other < 6; other++) {
                due(x.balance(other, 2), other == player ? 9 : 0);
            }
        }
        badWith(NO_PLAYERS, BUSY, (x, player) -> x.mint(player, 0, 1));
    }

    static void promise02MintKnowsTokens0To3() {
        for (int token = 0; token < 4; token++) {
            ExactCurves x = new ExactCurves();
            due(x.mint(3, token, 9), 9);
            for (int other = 0; other < 4; other++) {
                due(x.balance(3, other), other == token ? 9 : 0);
                due(x.total(other), other == token ? 9 : 0);
            }
        }
        badWith(NO_TOKENS, BUSY, (x, token) -> x.mint(0, token, 1));
    }

    static void promise02MintAnswersTheBalance() {
        Run some = x -> x.mint(4, 1, 5);
        answers(some, x -> x.mint(4, 1, 6), 11);
        answers(some, x -> x.mint(3, 1, 6), 6);
        answers(some, x -> x.mint(4, 2, 6), 6);
    }

    static void promise02MintFillsUpTo10To14InAll() {
        Run allButOne = x -> x.mint(0, 3, MOST - 1);
        answers(allButOne, x -> x.mint(0, 3, 1), MOST);
        answers(allButOne, x -> x.mint(5, 3, 1), 1);
        Run one = x -> x.mint(0, 3, 1);
        answers(one, x -> x.mint(1, 3, MOST - 1), MOST - 1);
        ExactCurves x = after(both(one, y -> y.mint(1, 3, MOST - 1)));
        due(x.total(3), MOST);
    }

    static void promise02MintIsRefusedAbove10To14InAll() {
        refused(x -> x.mint(0, 3, MOST - 1), x -> x.mint(0, 3, 2));
        refused(x -> x.mint(0, 3, MOST - 1), x -> x.mint(5, 3, 2));
        refused(x -> x.mint(0, 3, MOST), x -> x.mint(0, 3, 1));
        refused(x -> x.mint(0, 3, MOST), x -> x.mint(1, 3, MOST));
        refused(x -> x.mint(0, 3, 1), x -> x.mint(1, 3, MOST));
        refused(BUSY, x -> x.mint(1, 0, MOST));
    }

    static void promise02MintCountsEachTokenForItself() {
        Run full = x -> x.mint(0, 3, MOST);
        for (int token = 0; token < 3; token++) {
            int other = token;
            answers(full, x -> x.mint(0, other, MOST), MOST);
        }
    }

    static void promise02MintIsOpenAgainAfterARefusal() {
        ExactCurves x = after(y -> y.mint(0, 3, MOST - 5));
        due(x.mint(1, 3, 6), REFUSED);
        due(x.mint(1, 3, 5), 5);
        due(x.mint(1, 3, 1), REFUSED);
    }

    static void promise02MintCountsWhatIsInPools() {
        Run pooled = x -> {
            x.mint(0, 0, MOST);
            x.mint(0, 1, MOST);
            x.pool(0, 1, SUM, 0);
            x.join(0, 0, MOST, MOST);
        };
        due(after(pooled).balance(0, 0), 0);
        refused(pooled, x -> x.mint(0, 0, 1));
        refused(pooled, x -> x.mint(0, 1, 1));
    }

    static void promise02MintCountsWhatIsInOrders() {
        Run ordered = x -> {
            x.mint(0, 0, MOST);
            x.mint(0, 1, MOST);
            x.order(0, SELL, 10000000000L, 1000000);
            x.order(0, BUY, 10000000000L, 1000000);
        };
        due(after(ordered).balance(0, 0), MOST - 10000000000L);
        due(after(ordered).balance(0, 1), MOST - 10000000000000L);
        refused(ordered, x -> x.mint(1, 0, 1));
        refused(ordered, x -> x.mint(1, 1, 1));
    }

    static void promise02MintCountsWhatIsInVaults() {
        Run lent = x -> {
            x.mint(0, 2, MOST);
            x.lend(0, 2, MOST);
        };
        due(after(lent).balance(0, 2), 0);
        refused(lent, x -> x.mint(0, 2, 1));
    }

    static void promise02MintCountsWhatIsCover() {
        Run covered = x -> {
            x.mint(0, 0, MOST);
            x.mint(0, 1, 100);
            x.pool(0, 1, SUM, 0);
            x.join(0, 0, 10, 10);
            x.lend(0, 1, 50);
            x.loan(0, 0, 0, MOST - 10, 50);
        };
        due(after(covered).count(2), 1);
        due(after(covered).balance(0, 0), 0);
        refused(covered, x -> x.mint(0, 0, 1));
    }

    static void promise02MintCountsWhatTheHouseHas() {
        Run housed = x -> {
            x.mint(0, 0, 1);
            x.mint(1, 1, 1);
            x.order(0, SELL, 1, 1);
            x.order(1, BUY, 1, 1);
            x.clear();
        };
        // The buyer pays 1 // 1000 = 1, the seller gets 1 / 1000 = 0.
        due(after(housed).house(1), 1);
        refused(housed, x -> x.mint(0, 1, MOST));
        answers(housed, x -> x.mint(0, 1, MOST - 1), MOST - 1);
    }

    /** What is owed is not there twice: only amounts count, not DEBTS. */
    static void promise02MintDoesNotCountDebts() {
        Run owed = x -> {
            x.mint(0, 0, 1000);
            x.mint(0, 1, 100);
            x.pool(0, 1, SUM, 0);
            x.join(0, 0, 10, 10);
            x.lend(0, 1, 50);
            x.rate(1, 1000000);
            x.loan(0, 0, 0, 500, 50);
            x.tick(1000);
        };
        due(after(owed).vault(1, 1) > 100 ? 1 : 0, 1);
        answers(owed, x -> x.mint(1, 1, MOST - 100), MOST - 100);
        refused(owed, x -> x.mint(1, 1, MOST - 99));
    }

    // ---- Promise 3: "A BALANCE. BAD."

    static void promise03BalanceIs0AtFirst() {
        answersAndChangesNothing(NOTHING, x -> x.balance(5, 3), 0);
        answersAndChangesNothing(NOTHING, x -> x.balance(0, 0), 0);
    }

    static void promise03BalanceKnowsPlayers0To5() {
        Run some = x -> {
            x.mint(0, 1, 10);
            x.mint(5, 1, 15);
        };
        answersAndChangesNothing(some, x -> x.balance(0, 1), 10);
        answersAndChangesNothing(some, x -> x.balance(5, 1), 15);
        badWith(NO_PLAYERS, BUSY, (x, player) -> x.balance(player, 0));
    }

    static void promise03BalanceKnowsTokens0To3() {
        Run some = x -> {
            x.mint(2, 0, 10);
            x.mint(2, 3, 13);
        };
        answersAndChangesNothing(some, x -> x.balance(2, 0), 10);
        answersAndChangesNothing(some, x -> x.balance(2, 3), 13);
        badWith(NO_TOKENS, BUSY, (x, token) -> x.balance(0, token));
    }

    static void promise03BalanceHolds10To14() {
        answersAndChangesNothing(x -> x.mint(2, 1, MOST), x -> x.balance(2, 1), MOST);
    }

    static void promise03BalanceOfASpentTokenIs0() {
        Run spent = x -> {
            x.mint(2, 1, MOST);
            x.lend(2, 1, MOST);
        };
        answersAndChangesNothing(spent, x -> x.balance(2, 1), 0);
    }

    // ---- Promise 4: "BALANCES, POOLS, ORDERS, VAULTS, COVERS, the HOUSE"

    static void promise04TotalKnowsTokens0To3() {
        Run some = x -> {
            x.mint(2, 0, 10);
            x.mint(3, 0, 1);
            x.mint(2, 3, 13);
        };
        answersAndChangesNothing(some, x -> x.total(0), 11);
        answersAndChangesNothing(some, x -> x.total(1), 0);
        answersAndChangesNothing(some, x -> x.total(3), 13);
        badWith(NO_TOKENS, BUSY, (x, token) -> x.total(token));
    }

    static void promise04TotalHolds10To14() {
        Run full = x -> {
            x.mint(2, 3, MOST - 1);
            x.mint(5, 3, 1);
        };
        answersAndChangesNothing(full, x -> x.total(3), MOST);
    }

    /** Every step moves amounts to a place that total() must count. */
    static void promise04TotalStaysWhileAmountsMove() {
        ExactCurves x = after(rich(10000));
        x.pool(0, 1, PRODUCT, 30);
        due(x.join(0, 0, 1000, 2000), 1414);
        totals(x, 20000);
        due(x.swap(1, 0, 0, 100), 181);
        totals(x, 20000);
        due(x.flash(1, 0, 10, 0, 20, 0), 1);
        totals(x, 20000);
        due(x.order(0, SELL, 10, 333), 0);
        totals(x, 20000);
        due(x.order(1, BUY, 7, 333), 1);
        totals(x, 20000);
        due(x.clear(), 333);
        due(x.house(1), 1);
        totals(x, 20000);
        due(x.lend(0, 1, 500), 500);
        totals(x, 20000);
        due(x.loan(1, 0, 0, 500, 400), 0);
        totals(x, 20000);
        x.rate(1, 1000000);
        x.tick(1000);
        totals(x, 20000);
        due(x.pay(0, 0, 10), 10);
        totals(x, 20000);
        due(x.close(0, 0), 500);
        totals(x, 20000);
        due(x.redeem(0, 1, 1) > 0 ? 1 : 0, 1);
        totals(x, 20000);
        due(x.leave(0, 0, 1414), 1110);
        totals(x, 20000);
    }

    private static void totals(ExactCurves x, long want) {
        for (int token = 0; token < 4; token++) {
            due(x.total(token), want);
        }
    }

    // ---- Promise 5: "What the HOUSE has of a TOKEN. BAD."

    static void promise05HouseIs0AtFirst() {
        for (int token = 0; token < 4; token++) {
            int other = token;
            answersAndChangesNothing(NOTHING, x -> x.house(other), 0);
        }
    }

    static void promise05HouseKnowsTokens0To3() {
        badWith(NO_TOKENS, BUSY, (x, token) -> x.house(token));
        Run first = dealOfOne(3, 0);
        answersAndChangesNothing(first, x -> x.house(0), 1);
        answersAndChangesNothing(first, x -> x.house(3), 0);
        Run last = dealOfOne(0, 3);
        answersAndChangesNothing(last, x -> x.house(3), 1);
        answersAndChangesNothing(last, x -> x.house(0), 0);
    }

    static void promise05HouseGetsNothingWhenNothingIsLeftOver() {
        Run even = x -> {
            x.mint(0, 0, 1000);
            x.mint(1, 1, 1000);
            x.order(0, SELL, 1000, 1);
            x.order(1, BUY, 1000, 1);
            x.clear();
        };
        answersAndChangesNothing(even, x -> x.house(1), 0);
        due(after(even).balance(0, 1), 1);
    }

    static void promise05HouseKeepsWhatItHas() {
        Run twice = both(dealOfOne(0, 1), dealOfOne(0, 1));
        answersAndChangesNothing(twice, x -> x.house(1), 2);
    }

    /** One of a for one of b, of which the seller gets nothing. */
    private static Run dealOfOne(int a, int b) {
        return x -> {
            x.batch(a, b);
            x.mint(0, a, 1);
            x.mint(1, b, 1);
            x.order(0, SELL, 1, 1);
            x.order(1, BUY, 1, 1);
            x.clear();
        };
    }
}
