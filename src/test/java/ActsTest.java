/** Promises 8 to 12: pour, drink, tip, hour, undo. */
public final class ActsTest {
    private static final int UNKNOWN = GlassTax.UNKNOWN, OUTSIDE = GlassTax.OUTSIDE, STATE = GlassTax.STATE;

    public static void main(String[] args) {
        pouring();
        drinking();
        tipping();
        tippedAges();
        hours();
        foamAndCracks();
        undoing();
        forgetting();
        Check.end();
    }

    private static void pouring() {
        GlassTax x = Check.inn("GV940V330");
        Check.due("pour(2, 1)", x.pour(2, 1), UNKNOWN);
        Check.due("pour(-1, 1)", x.pour(-1, 1), UNKNOWN);
        Check.due("pour(2, 0)", x.pour(2, 0), UNKNOWN);
        Check.due("pour(0, 0)", x.pour(0, 0), OUTSIDE);
        Check.due("pour(0, 10)", x.pour(0, 10), OUTSIDE);
        Check.due("pour(1, 10) into a full one", x.pour(1, 10), OUTSIDE);
        Check.due("pour(1, 1) into a full one", x.pour(1, 1), STATE);
        Check.due("no act yet", x.count(6), 0);
        x.hour();
        Check.due("age ahead", x.glass(0, 3), 1);
        Check.due("pour(0, 2)", x.pour(0, 2), 2);
        Check.due("in it", x.glass(0, 1), 6);
        Check.due("age behind", x.glass(0, 3), 0);
        Check.due("the other's age stays", x.glass(1, 3), 1);
        Check.due("pour(0, 9)", x.pour(0, 9), 3);
        Check.due("in it at most", x.glass(0, 1), 9);
        Check.due("pour(0, 9) full", x.pour(0, 9), STATE);
        Check.due("acts", x.count(6), 3);
    }

    private static void drinking() {
        GlassTax x = Check.inn("GV990V990D50D91S00S11S10");
        Check.due("drink(2, 0)", x.drink(2, 0), UNKNOWN);
        Check.due("drink(-1, 0)", x.drink(-1, 0), UNKNOWN);
        Check.due("drink(0, 2)", x.drink(0, 2), UNKNOWN);
        Check.due("drink(0, -1)", x.drink(0, -1), UNKNOWN);
        Check.due("drink(0, 1)", x.drink(0, 1), STATE);
        Check.due("no act yet", x.count(6), 0);
        x.hour();
        Check.due("drink(0, 0)", x.drink(0, 0), 5);
        Check.due("left in it", x.glass(0, 1), 4);
        Check.due("thirst", x.drinker(0, 0), 0);
        Check.due("age stays", x.glass(0, 3), 1);
        Check.due("drink(1, 0)", x.drink(1, 0), 3);
        Check.due("thirst of the polite one", x.drinker(1, 0), 6);
        Check.due("drink(0, 0) without thirst", x.drink(0, 0), 0);
        Check.due("that is an act, too", x.count(6), 4);
    }

    private static void tipping() {
        GlassTax x = Check.inn("GV960V980V500");
        Check.due("tip(0, 3)", x.tip(0, 3), UNKNOWN);
        Check.due("tip(3, 0)", x.tip(3, 0), UNKNOWN);
        Check.due("tip(3, 3)", x.tip(3, 3), UNKNOWN);
        Check.due("tip(-1, 0)", x.tip(-1, 0), UNKNOWN);
        Check.due("tip(2, 2)", x.tip(2, 2), OUTSIDE);
        Check.due("tip(2, 0) of an empty one", x.tip(2, 0), STATE);
        Check.due("tip(0, 1)", x.tip(0, 1), 1);
        Check.due("what stays", x.glass(0, 1), 5);
        Check.due("what is there", x.glass(1, 1), 9);
        Check.due("tip(0, 1) into a full one", x.tip(0, 1), STATE);
        Check.due("tip(0, 2)", x.tip(0, 2), 5);
        Check.due("empty", x.glass(0, 1), 0);
        Check.due("acts", x.count(6), 2);
    }

    private static void tippedAges() {
        GlassTax x = Check.inn("GV940V900V900");
        x.hour();
        x.hour();
        Check.due("an empty one stays young", x.glass(1, 3), 0);
        x.pour(1, 3);
        x.hour();
        Check.due("tip the older one", x.tip(0, 1), 4);
        Check.due("the greater age", x.glass(1, 3), 3);
        Check.due("the emptied one keeps its age", x.glass(0, 3), 3);
        x.hour();
        Check.due("an empty one is not older", x.glass(0, 3), 3);
        Check.due("a full one is", x.glass(1, 3), 4);
        x.pour(2, 1);
        Check.due("tip the younger one", x.tip(2, 1), 1);
        Check.due("the greater age stays", x.glass(1, 3), 4);
        x.tip(1, 0);
        Check.due("greater than the emptied one's", x.glass(0, 3), 4);
        x.pour(2, 1);
        x.pour(0, 1);
        x.hour();
        x.tip(2, 0);
        Check.due("like ages", x.glass(0, 3), 1);
    }

    private static void hours() {
        GlassTax x = Check.inn(InnTest.FOUR);
        int[] taxes = {10, 9, 0, 0, 0, 0, 0, 0, 0, 0, 0};
        for (int i = 0; i < taxes.length; i++) {
            Check.due("hour " + (i + 1), x.hour(), taxes[i]);
            Check.due("THE HOUR", x.count(5), i + 1);
            Check.due("age of glass 0", x.glass(0, 3), Math.min(9, i + 1));
        }
        Check.due("the cracked one is empty", x.glass(2, 1), 0);
        Check.due("its age", x.glass(2, 3), 3);
        Check.due("the foaming one", x.glass(1, 1), 2);
        Check.due("hour() of an empty inn", Check.inn("G").hour(), 0);
    }

    private static void foam(int content, int want) {
        GlassTax x = Check.inn("GV9" + content + "2");
        x.hour();
        Check.due("foam of " + content, x.glass(0, 1), want);
        x.hour();
        Check.due("foam of " + content + ", an hour more", x.glass(0, 1), want);
    }

    private static void foamAndCracks() {
        foam(0, 0);
        foam(3, 3);
        foam(4, 3);
        foam(7, 6);
        foam(8, 6);
        foam(9, 7);
        GlassTax x = Check.inn("GV982V921");
        x.hour();
        x.hour();
        x.pour(0, 3);
        Check.due("poured anew", x.glass(0, 1), 9);
        x.hour();
        Check.due("it foams anew", x.glass(0, 1), 7);
        Check.due("cracked: empty", x.glass(1, 1), 0);
        Check.due("cracked: its age stays", x.glass(1, 3), 2);
        x.pour(1, 1);
        Check.due("cracked: poured", x.glass(1, 3), 0);
    }

    private static void undoing() {
        GlassTax x = Check.inn("GV940V950D70S00");
        Check.due("undo() of nothing", x.undo(), STATE);
        x.hour();
        x.drink(0, 0);
        x.pour(0, 3);
        x.tip(1, 0);
        Check.due("tipped", x.glass(0, 1) * 10 + x.glass(1, 1), 80);
        Check.due("undo() the tip", x.undo(), 3);
        Check.due("content", x.glass(0, 1) * 10 + x.glass(1, 1), 35);
        Check.due("age", x.glass(0, 3), 0);
        Check.due("undo() the pour", x.undo(), 2);
        Check.due("content", x.glass(0, 1), 0);
        Check.due("age", x.glass(0, 3), 1);
        Check.due("undo() the drink", x.undo(), 1);
        Check.due("content", x.glass(0, 1), 4);
        Check.due("thirst", x.drinker(0, 0), 7);
        Check.due("the hour is still passed", x.glass(0, 3) * 10 + x.count(5), 11);
        Check.due("undo() the hour", x.undo(), 0);
        Check.due("age", x.glass(0, 3), 0);
        Check.due("THE HOUR", x.count(5), 0);
        Check.due("undo() of nothing", x.undo(), STATE);
        x.pour(0, 1);
        x.pour(0, 1);
        x.undo();
        x.pour(0, 3);
        Check.due("undo() behind an undo", x.undo(), 1);
        Check.due("content", x.glass(0, 1), 5);
    }

    private static void forgetting() {
        GlassTax x = Check.inn("GV990");
        for (int i = 1; i <= 20; i++) {
            x.hour();
            Check.due("acts behind " + i, x.count(6), Math.min(14, i));
        }
        for (int i = 13; i >= 0; i--) {
            Check.due("undo()", x.undo(), i);
        }
        Check.due("undo() of a forgotten one", x.undo(), STATE);
        Check.due("THE HOUR", x.count(5), 6);
        Check.due("age", x.glass(0, 3), 6);
    }
}
