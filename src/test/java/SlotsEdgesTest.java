/** The edges of promises 28 and 29: keep, again. */
public final class SlotsEdgesTest {
    private static final int UNKNOWN = GlassTax.UNKNOWN, STATE = GlassTax.STATE;
    private static final int[] NO_SLOTS = {-1, 2, 3, 32, 33, Integer.MIN_VALUE, Integer.MAX_VALUE};

    public static void main(String[] args) {
        twoSlots();
        noneWereKept();
        theHour();
        keepingChangesNothing();
        whatIsKept();
        whatIsNotKept();
        keptAnew();
        goneOnAgainAndAgain();
        theRowIsEmpty();
        goneWithTheInn();
        Check.end();
    }

    /** "SLOTS 0 to 1"; "UNKNOWN", ahead of "STATE". */
    private static void twoSlots() {
        GlassTax x = Check.inn("GV990");
        for (int slot : NO_SLOTS) {
            Check.due("keep(" + slot + ")", x.keep(slot), UNKNOWN);
            Check.due("again(" + slot + ")", x.again(slot), UNKNOWN);
        }
        Check.due("nothing was kept", x.again(0) + x.again(1), 2 * STATE);
        Check.due("keep(0)", x.keep(0), 0);
        Check.due("keep(1)", x.keep(1), 0);
        for (int slot : NO_SLOTS) {
            Check.due("again(" + slot + ") of two", x.again(slot), UNKNOWN);
        }
    }

    /** "STATE: none were kept." */
    private static void noneWereKept() {
        for (int kept = 0; kept < 2; kept++) {
            GlassTax x = Check.inn("GV990");
            x.hour();
            Check.due("again(0)", x.again(0), STATE);
            Check.due("again(1)", x.again(1), STATE);
            Check.due("the row is not emptied by that", x.count(6), 1);
            x.keep(kept);
            Check.due("again() of the other", x.again(1 - kept), STATE);
            Check.due("again() of the one", x.again(kept), 1);
        }
    }

    /** "They are kept: THE HOUR."; "They are as they were kept: THE HOUR." */
    private static void theHour() {
        GlassTax x = Check.inn("G");
        Check.due("keep(0) at first", x.keep(0), 0);
        Check.hours(x, 20);
        Check.due("keep(1)", x.keep(1), 20);
        Check.due("again(0)", x.again(0), 0);
        Check.due("count(5)", x.count(5), 0);
        Check.due("again(1)", x.again(1), 20);
        Check.due("count(5)", x.count(5), 20);
    }

    private static void keepingChangesNothing() {
        GlassTax x = Check.inn("GV940D30S00");
        x.hour();
        x.drink(0, 0);
        x.keep(0);
        x.keep(1);
        Check.due("acts", x.count(6), 2);
        Check.due("undo()", x.undo(), 1);
        Check.due("in it", x.glass(0, 1), 4);
        Check.due("again(1) is not undone", x.again(1) * 10 + x.glass(0, 1), 11);
    }

    /** "what is in GLASSES, AGES, THIRSTS, THE HOUR": to the last glass and the last drinker. */
    private static void whatIsKept() {
        GlassTax x = Check.inn("GV910V920V930V940V950D90D80D70D60S00S11S22S34");
        Check.hours(x, 2);
        x.keep(0);
        x.drink(0, 0);
        x.drink(1, 1);
        x.drink(2, 2);
        x.drink(3, 4);
        x.pour(3, 5);
        x.hour();
        x.again(0);
        int[] got = new int[14];
        for (int g = 0; g < 5; g++) {
            got[2 * g] = x.glass(g, 1);
            got[2 * g + 1] = x.glass(g, 3);
        }
        for (int d = 0; d < 4; d++) {
            got[10 + d] = x.drinker(d, 0);
        }
        Check.dueRow("as they were kept", got, 1, 2, 2, 2, 3, 2, 4, 2, 5, 2, 9, 8, 7, 6);
        Check.due("THE HOUR", x.count(5), 2);
    }

    /** THE TEXT, SEEN and THE SEED are not told among what is kept. */
    private static void whatIsNotKept() {
        GlassTax x = Check.inn("GV910D90");
        x.see(0, 1, 1);
        x.seed(4);
        x.keep(0);
        x.write('V');
        x.see(0, 2, 2);
        x.seed(5);
        x.again(0);
        Check.due("letters", x.count(0), 9);
        Check.due("seen", x.count(7), 2);
        Check.due("THE SEED", x.seed(0), 5);
    }

    private static void keptAnew() {
        GlassTax x = Check.inn("GV910");
        x.keep(0);
        x.keep(1);
        x.pour(0, 1);
        x.keep(0);
        x.pour(0, 1);
        x.again(0);
        Check.due("the later one", x.glass(0, 1), 2);
        x.again(1);
        Check.due("the other slot", x.glass(0, 1), 1);
    }

    private static void goneOnAgainAndAgain() {
        GlassTax x = Check.inn("GV910");
        x.keep(1);
        for (int i = 1; i <= 5; i++) {
            x.pour(0, i);
            x.hour();
            Check.due("again(1)", x.again(1), 0);
            Check.due("in it", x.glass(0, 1), 1);
        }
    }

    /** "(THE ROW of ACTS is empty when one goes on)". */
    private static void theRowIsEmpty() {
        GlassTax x = Check.inn("GV910");
        x.keep(0);
        Check.hours(x, 14);
        x.again(0);
        Check.due("acts", x.count(6), 0);
        Check.due("undo()", x.undo(), STATE);
        Check.hours(x, 3);
        Check.due("acts go on", x.count(6), 3);
        for (int i = 2; i >= 0; i--) {
            Check.due("undo()", x.undo(), i);
        }
        Check.due("undo() of none", x.undo(), STATE);
        Check.due("THE HOUR", x.count(5), 0);
    }

    /** "what was kept is gone", but not by an inn that was refused. */
    private static void goneWithTheInn() {
        GlassTax x = Check.inn("GV910");
        x.keep(0);
        x.keep(1);
        x.write('V');
        Check.due("inn() refused", x.inn(), STATE);
        Check.due("again(0)", x.again(0), 0);
        Check.due("again(1)", x.again(1), 0);
        Check.due("inn()", Check.innAnew(x, "GV910"), 10);
        Check.due("again(0)", x.again(0), STATE);
        Check.due("again(1)", x.again(1), STATE);
    }
}
