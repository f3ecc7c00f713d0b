/** Promises 20 to 22: see, unsee, thirsts. */
public final class SeenTest {
    private static final int UNKNOWN = GlassTax.UNKNOWN, OUTSIDE = GlassTax.OUTSIDE, FULL = GlassTax.FULL;
    private static final int ANY = 1023;

    public static void main(String[] args) {
        seeing();
        kinds();
        together();
        otherInns();
        Check.end();
    }

    private static void seeing() {
        GlassTax x = Check.inn("GD50D51");
        Check.due("see(2, 0, 0)", x.see(2, 0, 0), UNKNOWN);
        Check.due("see(-1, 99, 0)", x.see(-1, 99, 0), UNKNOWN);
        Check.due("see(0, 10, 0)", x.see(0, 10, 0), OUTSIDE);
        Check.due("see(0, -1, -1)", x.see(0, -1, -1), OUTSIDE);
        Check.due("see(0, 4, 5)", x.see(0, 4, 5), OUTSIDE);
        Check.due("see(0, 4, -1)", x.see(0, 4, -1), OUTSIDE);
        Check.due("count(7)", x.count(7), 0);
        Check.due("see(1, 0, 0)", x.see(1, 0, 0), 1);
        Check.due("unsee()", x.unsee(), 1);
        for (int i = 1; i <= 6; i++) {
            Check.due("see " + i, x.see(i % 2, 9, 9), i);
        }
        Check.due("see the 7th", x.see(0, 9, 9), FULL);
        Check.due("see(0, 4, 5) behind 6", x.see(0, 4, 5), OUTSIDE);
        Check.due("see(2, 4, 5) behind 6", x.see(2, 4, 5), UNKNOWN);
        Check.due("count(7)", x.count(7), 6);
        Check.due("thirsts(0)", x.thirsts(0), 1);
        Check.due("unsee()", x.unsee(), 6);
        Check.due("unsee() again", x.unsee(), 0);
        Check.due("thirsts(0)", x.thirsts(0), ANY);
        Check.due("see(0, 9, 0)", x.see(0, 9, 0), 1);
        Check.due("thirsts(0)", x.thirsts(0), 512);
        Check.due("thirsts(2)", x.thirsts(2), UNKNOWN);
        Check.due("thirsts(-1)", x.thirsts(-1), UNKNOWN);
        Check.due("no acts of it", x.count(6), 0);
    }

    private static void thirsts(int kind, int was, int is, int want) {
        GlassTax x = Check.inn("GD2" + kind);
        x.see(0, was, is);
        Check.due("kind " + kind + ", " + was + " to " + is, x.thirsts(0), want);
    }

    private static void kinds() {
        for (int kind = 0; kind <= 3; kind++) {
            thirsts(kind, 0, 0, ANY);
        }
        thirsts(0, 4, 1, 8);
        thirsts(0, 4, 0, 1008);
        thirsts(0, 4, 4, 1);
        thirsts(0, 9, 0, 512);
        thirsts(1, 4, 1, 1016);
        thirsts(1, 4, 2, 4);
        thirsts(1, 4, 0, 0);
        thirsts(1, 1, 1, ANY);
        thirsts(1, 1, 0, 0);
        thirsts(2, 9, 5, 1008);
        thirsts(2, 8, 6, 4);
        thirsts(2, 9, 4, 0);
        thirsts(2, 1, 1, ANY);
        thirsts(3, 5, 5, ANY);
        thirsts(3, 5, 4, 0);
    }

    private static void together() {
        GlassTax x = Check.inn("GD50D51");
        x.see(0, 4, 0);
        x.see(0, 9, 4);
        Check.due("two of one", x.thirsts(0), 32);
        Check.due("none of the other", x.thirsts(1), ANY);
        x.see(1, 6, 1);
        Check.due("one of the other", x.thirsts(1), 992);
        x.see(0, 3, 3);
        Check.due("it can not be", x.thirsts(0), 0);
        Check.due("the other still can", x.thirsts(1), 992);
    }

    private static void otherInns() {
        GlassTax x = Check.inn("GD50D50");
        x.see(1, 4, 1);
        Check.due("thirsts(1) of a plain one", x.thirsts(1), 8);
        Check.innAnew(x, "GD50");
        Check.due("no such drinker any more", x.thirsts(1), UNKNOWN);
        Check.due("nothing of the first", x.thirsts(0), ANY);
        Check.due("still seen", x.count(7), 1);
        Check.innAnew(x, "GD50D51");
        Check.due("thirsts(1) of a polite one", x.thirsts(1), 1016);
        Check.innAnew(x, "GD50D53");
        Check.due("thirsts(1) of a ghost", x.thirsts(1), 0);
    }
}
