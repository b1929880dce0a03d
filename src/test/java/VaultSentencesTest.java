/** Sentences on boundaries: promises 20 to 23, and "PLAYERS lend to VAULTS". */
final class VaultSentencesTest extends Sentences {
    private static final long WEALTH = 1000000;

    public static void main(String[] args) {
        runAll(VaultSentencesTest.class, 20, 23);
    }

    /** PLAYER 0 has lent 100 of TOKEN 1, PLAYER 1 has borrowed 60 of them; nothing has grown yet. */
    private static final Run BORROWED = both(rich(WEALTH), x -> {
        x.pool(0, 1, SUM, 0);
        x.join(0, 0, 1000, 1000);
        x.lend(0, 1, 100);
        x.loan(1, 0, 0, 100, 60);
    });

    /** By the least RATE and one TICK the DEBT is 61: the VAULT has 40, is worth 101 and has 100 PARTS. */
    private static final Run GROWN = both(BORROWED, x -> {
        x.rate(1, 1);
        x.tick(1);
    });

    private static void vaultTells(ExactCurves x, int token, long has, long worth, long parts) {
        due(x.vault(token, 0), has);
        due(x.vault(token, 1), worth);
        due(x.vault(token, 2), parts);
    }

    // ---- Promise 20: "A VAULT's RATE becomes v: what it was. BAD.", "RATE 0 .. 10^6"

    static void promise20RateKnowsTokens0To3() {
        for (int token = 0; token < 4; token++) {
            ExactCurves x = new ExactCurves();
            due(x.rate(token, 7), 0);
            for (int other = 0; other < 4; other++) {
                due(x.vault(other, 4), other == token ? 7 : 0);
            }
        }
        badWith(NO_TOKENS, BUSY, (x, token) -> x.rate(token, 1));
    }

    static void promise20RateTakes0AndNotLess() {
        answers(x -> x.rate(1, 5), x -> x.rate(1, 0), 5);
        answers(both(x -> x.rate(1, 5), x -> x.rate(1, 0)), x -> x.vault(1, 4), 0);
        badWith(BELOW_ZERO, BUSY, (x, v) -> x.rate(1, v));
    }

    static void promise20RateTakes10To6AndNotMore() {
        answers(x -> x.rate(1, 1000000), x -> x.vault(1, 4), 1000000);
        answers(x -> x.rate(1, 1000000), x -> x.rate(1, 999999), 1000000);
        badWith(new long[] {1000001, 4294967296L, 4294967297L, Long.MAX_VALUE}, BUSY, (x, v) -> x.rate(1, v));
    }

    static void promise20RateAnswersWhatItWas() {
        ExactCurves x = new ExactCurves();
        due(x.rate(2, 3), 0);
        due(x.rate(2, 1000001), BAD);
        due(x.rate(2, 4), 3);
        due(x.rate(2, -1), BAD);
        due(x.rate(2, 4), 4);
        due(x.rate(2, 0), 4);
    }

    /** A RATE acts from the next TICK on. */
    static void promise20RateLeavesTheIndex() {
        ExactCurves x = after(y -> y.tick(1000));
        x.rate(0, 1000000);
        due(x.vault(0, 3), 1000000000);
        x.tick(1);
        due(x.vault(0, 3), 1001000000);
        x.rate(0, 0);
        due(x.vault(0, 3), 1001000000);
    }

    // ---- Promise 21: "BAD: PLAYER, TOKEN, amount below 1; REFUSED."

    static void promise21LendKnowsPlayers0To5() {
        for (int player = 0; player < 6; player++) {
            ExactCurves x = new ExactCurves();
            x.mint(player, 1, 10);
            due(x.lend(player, 1, 9), 9);
            due(x.balance(player, 1), 1);
            for (int other = 0; other < 6; other++) {
                due(x.vault(1, 5 + other), other == player ? 9 : 0);
            }
        }
        badWith(NO_PLAYERS, BUSY, (x, player) -> x.lend(player, 1, 10));
    }

    static void promise21LendKnowsTokens0To3() {
        for (int token = 0; token < 4; token++) {
            ExactCurves x = after(rich(100));
            due(x.lend(0, token, 9), 9);
            for (int other = 0; other < 4; other++) {
                vaultTells(x, other, other == token ? 9 : 0, other == token ? 9 : 0, other == token ? 9 : 0);
            }
        }
        badWith(NO_TOKENS, BUSY, (x, token) -> x.lend(0, token, 10));
    }

    static void promise21LendTakes1AndNotLess() {
        answers(rich(100), x -> x.lend(0, 1, 1), 1);
        badWith(BELOW_ONE, rich(100), (x, amount) -> x.lend(0, 1, amount));
        badWith(BELOW_ONE, BUSY, (x, amount) -> x.lend(0, 1, amount));
    }

    static void promise21LendNeedsABalance() {
        Run has = x -> x.mint(4, 1, 50);
        answers(has, x -> x.lend(4, 1, 50), 50);
        refusedWith(new long[] {51, MOST, MOST + 1, Long.MAX_VALUE}, has, (x, amount) -> x.lend(4, 1, amount));
        refused(has, x -> x.lend(4, 0, 1));
        refused(has, x -> x.lend(3, 1, 1));
        refused(NOTHING, x -> x.lend(0, 0, 1));
        answers(x -> x.mint(4, 1, MOST), x -> x.lend(4, 1, MOST), MOST);
    }

    /** "at first as many as they bring" */
    static void promise21LendAtFirstBringsAsManyParts() {
        ExactCurves x = after(rich(WEALTH));
        due(x.lend(0, 3, 7), 7);
        vaultTells(x, 3, 7, 7, 7);
        due(x.balance(0, 3), WEALTH - 7);
        // While nothing has grown, everyone gets as many.
        due(x.lend(1, 3, 11), 11);
        vaultTells(x, 3, 18, 18, 18);
        due(x.vault(3, 5), 7);
        due(x.vault(3, 6), 11);
    }

    /** A VAULT without PARTS is as at first, even if its INDEX has grown. */
    static void promise21LendToAVaultWithoutPartsIsAsAtFirst() {
        Run left = both(GROWN, x -> {
            x.pay(1, 0, 61);
            x.redeem(0, 1, 100);
        });
        ExactCurves x = after(left);
        vaultTells(x, 1, 0, 0, 0);
        due(x.vault(1, 3), 1000000001);
        due(x.lend(1, 1, 7), 7);
        vaultTells(x, 1, 7, 7, 7);
    }

    /** "then amount times all PARTS / WORTH", cut off. */
    static void promise21LendThenIsByWorth() {
        ExactCurves x = after(GROWN);
        vaultTells(x, 1, 40, 101, 100);
        // 203 100 / 101 = 200.9.
        due(x.lend(1, 1, 203), 200);
        vaultTells(x, 1, 243, 304, 300);
        due(x.vault(1, 5), 100);
        due(x.vault(1, 6), 200);
        due(after(GROWN).lend(1, 1, 202), 200);
        due(after(GROWN).lend(1, 1, 201), 199);
    }

    /** "(refused if 0)" */
    static void promise21LendForNoPartsIsRefused() {
        // 100 / 101 = 0.9, 200 / 101 = 1.9.
        refused(GROWN, x -> x.lend(0, 1, 1));
        refused(GROWN, x -> x.lend(1, 1, 1));
        answers(GROWN, x -> x.lend(1, 1, 2), 1);
        answers(BORROWED, x -> x.lend(1, 1, 1), 1);
    }

    static void promise21LendOfGreatAmounts() {
        ExactCurves x = after(greatDebt());
        due(x.vault(1, 1), 500 * MOST);
        // 5 10^13 5 10^13 / 5 10^16.
        due(x.lend(1, 1, MOST / 2), MOST / 2000);
        vaultTells(x, 1, MOST / 2, 500 * MOST + MOST / 2, MOST / 2 + MOST / 2000);
    }

    /** PLAYER 1 has borrowed all 5 10^13 that it has lent itself, and INDEX is at its most. */
    private static Run greatDebt() {
        return both(rich(MOST / 2), x -> {
            x.pool(0, 1, PRODUCT, 0);
            x.join(0, 0, 1, MOST / 2);
            x.lend(1, 1, MOST / 2);
            x.loan(1, 0, 0, MOST / 4, MOST / 2);
            x.rate(1, 1000000);
            for (int i = 0; i < 7; i++) {
                x.tick(1000);
            }
        });
    }

    // ---- Promise 22: "BAD: n below 1; REFUSED: also if one has not as many, it is 0."

    static void promise22RedeemKnowsPlayers0To5() {
        for (int player = 0; player < 6; player++) {
            ExactCurves x = new ExactCurves();
            x.mint(player, 1, 10);
            x.lend(player, 1, 10);
            due(x.redeem(player, 1, 4), 4);
            due(x.balance(player, 1), 4);
            due(x.vault(1, 5 + player), 6);
        }
        badWith(NO_PLAYERS, BUSY, (x, player) -> x.redeem(player, 1, 1));
    }

    static void promise22RedeemKnowsTokens0To3() {
        for (int token = 0; token < 4; token++) {
            ExactCurves x = after(rich(100));
            for (int other = 0; other < 4; other++) {
                x.lend(0, other, 50);
            }
            due(x.redeem(0, token, 20), 20);
            for (int other = 0; other < 4; other++) {
                due(x.vault(other, 0), other == token ? 30 : 50);
                due(x.balance(0, other), other == token ? 70 : 50);
            }
        }
        badWith(NO_TOKENS, BUSY, (x, token) -> x.redeem(0, token, 1));
    }

    static void promise22RedeemTakes1PartAndNotLess() {
        answers(BORROWED, x -> x.redeem(0, 1, 1), 1);
        badWith(BELOW_ONE, BORROWED, (x, n) -> x.redeem(0, 1, n));
        badWith(BELOW_ONE, BUSY, (x, n) -> x.redeem(0, 1, n));
        badWith(BELOW_ONE, NOTHING, (x, n) -> x.redeem(0, 1, n));
    }

    static void promise22RedeemTakesAsManyAsOneHas() {
        Run lent = both(rich(100), x -> {
            x.lend(0, 2, 30);
            x.lend(1, 2, 50);
        });
        answers(lent, x -> x.redeem(0, 2, 30), 30);
        refusedWith(new long[] {31, 50, 80, MOST, Long.MAX_VALUE}, lent, (x, n) -> x.redeem(0, 2, n));
        answers(lent, x -> x.redeem(1, 2, 50), 50);
        refused(lent, x -> x.redeem(1, 2, 51));
        refused(lent, x -> x.redeem(2, 2, 1));
        refused(lent, x -> x.redeem(0, 3, 1));
    }

    static void promise22RedeemFromAVaultWithoutPartsIsRefused() {
        refused(NOTHING, x -> x.redeem(0, 0, 1));
        refused(rich(100), x -> x.redeem(0, 0, Long.MAX_VALUE));
        Run left = both(rich(100), x -> {
            x.lend(0, 2, 30);
            x.redeem(0, 2, 30);
        });
        refused(left, x -> x.redeem(0, 2, 1));
    }

    /** "With n PARTS one takes n WORTH / all", cut off. */
    static void promise22RedeemIsByWorth() {
        // 40 101 / 100 = 40.4.
        ExactCurves x = after(GROWN);
        due(x.redeem(0, 1, 40), 40);
        vaultTells(x, 1, 0, 61, 60);
        due(x.balance(0, 1), WEALTH - 1000 - 100 + 40);
        ExactCurves paid = after(both(GROWN, y -> y.pay(1, 0, 61)));
        vaultTells(paid, 1, 101, 101, 100);
        due(paid.redeem(0, 1, 99), 99);
        vaultTells(paid, 1, 2, 2, 1);
        due(paid.redeem(0, 1, 1), 2);
        vaultTells(paid, 1, 0, 0, 0);
    }

    /** "(refused: it has not as much)" */
    static void promise22RedeemOfMoreThanItHasIsRefused() {
        answers(BORROWED, x -> x.redeem(0, 1, 40), 40);
        refused(BORROWED, x -> x.redeem(0, 1, 41));
        refused(BORROWED, x -> x.redeem(0, 1, 100));
        // 41 101 / 100 = 41.4.
        answers(GROWN, x -> x.redeem(0, 1, 40), 40);
        refused(GROWN, x -> x.redeem(0, 1, 41));
        Run drained = both(BORROWED, x -> x.redeem(0, 1, 40));
        refused(drained, x -> x.redeem(0, 1, 1));
        answers(both(drained, x -> x.pay(1, 0, 1)), x -> x.redeem(0, 1, 1), 1);
    }

    /**
     * "REFUSED: also .. it is 0" cannot be reached: a VAULT's WORTH never falls below its PARTS, so one of them is
     * worth 1 at least, also after all that rounds against PARTS.
     */
    static void promise22RedeemOfOnePartIsNever0() {
        ExactCurves x = after(GROWN);
        for (int i = 0; i < 20; i++) {
            x.lend(1, 1, 2 + i % 3);
            x.pay(1, 0, 1);
            due(x.vault(1, 1) >= x.vault(1, 2) ? 1 : 0, 1);
            due(x.redeem(1, 1, 1), 1);
        }
    }

    static void promise22RedeemOfGreatAmounts() {
        ExactCurves x = after(both(greatDebt(), y -> y.lend(1, 1, MOST / 2)));
        // WORTH is 1000 for each of the PARTS.
        refused(both(greatDebt(), y -> y.lend(1, 1, MOST / 2)), y -> y.redeem(1, 1, MOST / 2000 + 1));
        due(x.redeem(1, 1, MOST / 2000), MOST / 2);
        vaultTells(x, 1, 0, 500 * MOST, MOST / 2);
    }

    // ---- Promise 23: "what = 0 what it has .. 5 + player its PARTS. BAD."

    static void promise23VaultKnowsWhat0To10() {
        Run told = both(GROWN, x -> {
            x.mint(5, 1, 202);
            x.lend(5, 1, 202);
        });
        long[] want = {242, 303, 300, 1000000001, 1, 100, 0, 0, 0, 0, 200};
        for (int i = 0; i < 11; i++) {
            int what = i;
            answersAndChangesNothing(told, x -> x.vault(1, what), want[what]);
        }
        int[] wrong = {-1, 11, Integer.MIN_VALUE, Integer.MAX_VALUE};
        badWith(wrong, told, (x, what) -> x.vault(1, what));
        badWith(wrong, BUSY, (x, what) -> x.vault(3, what));
    }

    static void promise23VaultKnowsTokens0To3() {
        Run some = x -> {
            x.rate(0, 10);
            x.rate(3, 13);
        };
        answersAndChangesNothing(some, x -> x.vault(0, 4), 10);
        answersAndChangesNothing(some, x -> x.vault(3, 4), 13);
        for (int i = 0; i < 11; i++) {
            int what = i;
            badWith(NO_TOKENS, BUSY, (x, token) -> x.vault(token, what));
        }
    }

    /** "INDEX of each VAULT is 10^9 at first" */
    static void promise23VaultHasAnIndexOf10To9AtFirst() {
        for (int i = 0; i < 4; i++) {
            int token = i;
            answersAndChangesNothing(NOTHING, x -> x.vault(token, 3), 1000000000);
            answersAndChangesNothing(x -> x.tick(1000), x -> x.vault(token, 3), 1000000000);
        }
    }

    /** "WORTH is what the VAULT has and all DEBTS in it", those in other VAULTS aside. */
    static void promise23VaultIsWorthItsDebtsToo() {
        ExactCurves x = after(BORROWED);
        vaultTells(x, 1, 40, 100, 100);
        due(x.loan(0, 0, 0, 100, 10), 1);
        vaultTells(x, 1, 30, 100, 100);
        due(x.lend(1, 0, 500), 500);
        due(x.loan(0, 0, 1, 100, 20), 2);
        vaultTells(x, 0, 480, 500, 500);
        vaultTells(x, 1, 30, 100, 100);
        x.rate(1, 1);
        x.tick(1);
        // DEBTS 61 and 11, each rounded up for itself.
        vaultTells(x, 1, 30, 102, 100);
        vaultTells(x, 0, 480, 500, 500);
        due(x.pay(0, 1, 11), 11);
        vaultTells(x, 1, 41, 102, 100);
    }

    static void promise23VaultMayBeLeftWithDebtsAlone() {
        Run drained = both(BORROWED, x -> x.redeem(0, 1, 40));
        answersAndChangesNothing(drained, x -> x.vault(1, 0), 0);
        answersAndChangesNothing(drained, x -> x.vault(1, 1), 60);
        answersAndChangesNothing(drained, x -> x.vault(1, 2), 60);
    }

    static void promise23VaultHolds10To14() {
        Run full = x -> {
            x.mint(0, 1, MOST);
            x.lend(0, 1, MOST);
        };
        answersAndChangesNothing(full, x -> x.vault(1, 0), MOST);
        answersAndChangesNothing(full, x -> x.vault(1, 1), MOST);
        answersAndChangesNothing(full, x -> x.vault(1, 2), MOST);
        answersAndChangesNothing(full, x -> x.vault(1, 5), MOST);
    }
}
