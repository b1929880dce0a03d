import java.util.ArrayList;
import java.util.List;

/**
 * All that an object tells, and then what a fixed run of later calls brings to light of it: what MARKS hold, what
 * ORDERS wait, of which TOKENS the BATCH is. Two objects that tell the same are in the same state.
 */
final class Told {
    /** So that a setup of a hundred calls and all that is asked here stay within the 512 that the document promises. */
    private static final int MOST_CALLS = 400;

    private final ExactCurves x;
    private final List<String> lines = new ArrayList<>();

    private Told(ExactCurves x) {
        this.x = x;
    }

    static List<String> by(ExactCurves x) {
        Told told = new Told(x);
        told.tellAll();
        told.tellWhatComes();
        if (told.lines.size() > MOST_CALLS) {
            throw new IllegalStateException("a state that takes " + told.lines.size() + " calls to tell");
        }
        return told.lines;
    }

    private long tell(String call, long answer) {
        lines.add(call + " answers " + answer);
        return answer;
    }

    private void tellAll() {
        for (int what = 0; what < 4; what++) {
            tell("count(" + what + ")", x.count(what));
        }
        for (int token = 0; token < 4; token++) {
            tell("total(" + token + ")", x.total(token));
        }
        tellPurses();
        tellPools();
        tellVaults();
        tellLoans();
        tellDealt();
        tellMeans();
    }

    private void tellPurses() {
        for (int token = 0; token < 4; token++) {
            tell("house(" + token + ")", x.house(token));
            for (int player = 0; player < 6; player++) {
                tell("balance(" + player + ", " + token + ")", x.balance(player, token));
            }
        }
    }

    private void tellPools() {
        int pool = 0;
        while (tell("of(" + pool + ", 0)", x.of(pool, 0)) >= 0) {
            for (int what = 1; what < 15; what++) {
                tell("of(" + pool + ", " + what + ")", x.of(pool, what));
            }
            pool++;
        }
    }

    private void tellVaults() {
        for (int token = 0; token < 4; token++) {
            for (int what = 0; what < 11; what++) {
                tell("vault(" + token + ", " + what + ")", x.vault(token, what));
            }
        }
    }

    private void tellLoans() {
        for (int loan = 0; loan < 10; loan++) {
            if (tell("ofLoan(" + loan + ", 0)", x.ofLoan(loan, 0)) >= 0) {
                for (int what = 1; what < 8; what++) {
                    tell("ofLoan(" + loan + ", " + what + ")", x.ofLoan(loan, what));
                }
            }
        }
    }

    private void tellDealt() {
        int what = 0;
        while (tell("dealt(" + what + ")", x.dealt(what)) >= 0) {
            what++;
        }
    }

    private void tellMeans() {
        for (int k = 0; k < 8; k++) {
            tell("mean(" + k + ")", x.mean(k));
        }
    }

    private void tellWhatComes() {
        tell("later tick(1)", x.tick(1));
        tellMeans();
        for (int token = 0; token < 4; token++) {
            tell("later mint(5, " + token + ", 1)", x.mint(5, token, 1));
        }
        tell("later order to sell", x.order(5, 0, 1, 1));
        tell("later order to buy", x.order(5, 1, 1, 1));
        for (int token = 0; token < 4; token++) {
            tell("later balance(5, " + token + ")", x.balance(5, token));
        }
        tell("later clear()", x.clear());
        tellDealt();
        tellPurses();
    }
}
