/** Promises 28 and 29: keep, again. */
public final class SlotsTest {
    private static final int UNKNOWN = GlassTax.UNKNOWN, STATE = GlassTax.STATE;

    public static void main(String[] args) {
        refusals();
        goingOn();
        bothSlots();
        Check.end();
    }

    private static void refusals() {
        GlassTax x = Check.inn("GV990");
        Check.due("keep(2)", x.keep(2), UNKNOWN);
        Check.due("keep(-1)", x.keep(-1), UNKNOWN);
        Check.due("again(2)", x.again(2), UNKNOWN);
        Check.due("again(-1)", x.again(-1), UNKNOWN);
        Check.due("again(0)", x.again(0), STATE);
        Check.due("again(1)", x.again(1), STATE);
        x.hour();
        Check.due("refused: acts stay", x.again(0) == STATE && x.count(6) == 1);
        Check.due("keep(1)", x.keep(1), 1);
        Check.due("again(0)", x.again(0), STATE);
        Check.due("again(1)", x.again(1), 1);
    }

    private static void goingOn() {
        GlassTax x = Check.inn("GV990V310D70D41S00S11");
        x.hour();
        x.pour(1, 1);
        x.drink(0, 0);
        x.see(0, 3, 2);
        x.seed(8);
        Check.due("keep(0)", x.keep(0), 1);
        Check.due("keeping leaves acts", x.count(6), 3);
        x.hour();
        x.drink(1, 1);
        x.tip(1, 0);
        x.seed(9);
        x.see(1, 3, 2);
        Check.due("again(0)", x.again(0), 1);
        Check.due("THE HOUR", x.count(5), 1);
        Check.due("contents", x.glass(0, 1) * 10 + x.glass(1, 1), 22);
        Check.due("ages", x.glass(0, 3) * 10 + x.glass(1, 3), 10);
        Check.due("thirsts", x.drinker(0, 0) * 10 + x.drinker(1, 0), 4);
        Check.due("acts are none", x.count(6), 0);
        Check.due("undo()", x.undo(), STATE);
        Check.due("seen stays", x.count(7), 2);
        Check.due("the seed stays", x.seed(0), 9);
        x.hour();
        Check.due("again(0) a second time", x.again(0), 1);
        Check.due("age", x.glass(0, 3), 1);
        x.hour();
        Check.due("acts go on", x.count(6), 1);
        Check.due("undo() behind again", x.undo(), 0);
        Check.due("THE HOUR", x.count(5), 1);
    }

    private static void bothSlots() {
        GlassTax x = Check.inn("GV990");
        x.keep(0);
        x.hour();
        x.hour();
        Check.due("keep(1)", x.keep(1), 2);
        Check.due("again(0)", x.again(0), 0);
        Check.due("again(1)", x.again(1), 2);
        x.hour();
        Check.due("keep(1) over it", x.keep(1), 3);
        Check.due("again(0)", x.again(0), 0);
        Check.due("again(1)", x.again(1), 3);
        Check.due("age", x.glass(0, 3), 3);
        x.inn();
        Check.due("again(0) behind inn", x.again(0), STATE);
        Check.due("again(1) behind inn", x.again(1), STATE);
    }
}
