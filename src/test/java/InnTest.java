/** Promises 6, 7 and 30: glass, drinker, count. */
public final class InnTest {
    private static final int UNKNOWN = GlassTax.UNKNOWN, OUTSIDE = GlassTax.OUTSIDE;

    /** Four glasses and four drinkers, one of each kind; taxes 6, 2, 5, 0. */
    static final String FOUR = "GV640V922V531V323D50D31D72D93S00S10S11S22S23S33";

    public static void main(String[] args) {
        glasses();
        taxes();
        drinkers();
        gulps();
        counts();
        Check.end();
    }

    private static void row(String name, int[] got, int... want) {
        for (int i = 0; i < want.length; i++) {
            Check.due(name + ", " + i, got[i], want[i]);
        }
    }

    private static int[] glassRow(GlassTax x, int glass) {
        int[] row = new int[6];
        for (int what = 0; what < 6; what++) {
            row[what] = x.glass(glass, what);
        }
        return row;
    }

    private static int[] drinkerRow(GlassTax x, int drinker) {
        int[] row = new int[4];
        for (int what = 0; what < 4; what++) {
            row[what] = x.drinker(drinker, what);
        }
        return row;
    }

    private static void glasses() {
        GlassTax x = Check.inn(FOUR);
        row("glass 0", glassRow(x, 0), 6, 4, 0, 0, 6, 3);
        row("glass 1", glassRow(x, 1), 9, 2, 2, 0, 2, 2);
        row("glass 2", glassRow(x, 2), 5, 3, 1, 0, 5, 4);
        row("glass 3", glassRow(x, 3), 3, 2, 3, 0, 0, 12);
        Check.due("glass(4, 0)", x.glass(4, 0), UNKNOWN);
        Check.due("glass(-1, 0)", x.glass(-1, 0), UNKNOWN);
        Check.due("glass(5, 9)", x.glass(5, 9), UNKNOWN);
        Check.due("glass(0, 6)", x.glass(0, 6), OUTSIDE);
        Check.due("glass(0, -1)", x.glass(0, -1), OUTSIDE);
        Check.due("glass(most, most)", x.glass(Integer.MAX_VALUE, Integer.MAX_VALUE), UNKNOWN);
    }

    private static void tax(String vessel, int want) {
        Check.due("tax of " + vessel, Check.inn("G" + vessel).glass(0, 4), want);
    }

    private static void taxes() {
        tax("V600", 0);
        tax("V620", 2);
        tax("V630", 5);
        tax("V520", 2);
        tax("V530", 5);
        tax("V110", 3);
        tax("V990", 11);
        tax("V623", 0);
        tax("V633", 3);
        tax("V933", 1);
        tax("V943", 2);
        tax("V953", 5);
        tax("V113", 0);
        tax("V631", 5);
        tax("V632", 5);
        GlassTax x = Check.inn("GV990V933");
        x.hour();
        x.hour();
        Check.due("tax at age 2", x.glass(0, 4), 11);
        Check.due("thimble's tax at age 2", x.glass(1, 4), 1);
        x.hour();
        Check.due("tax at age 3", x.glass(0, 4), 0);
        Check.due("thimble's tax at age 3", x.glass(1, 4), 0);
    }

    private static void drinkers() {
        GlassTax x = Check.inn(FOUR);
        row("drinker 0", drinkerRow(x, 0), 5, 0, 1, 4);
        row("drinker 1", drinkerRow(x, 1), 3, 1, 3, 3);
        row("drinker 2", drinkerRow(x, 2), 7, 2, 12, 1);
        row("drinker 3", drinkerRow(x, 3), 9, 3, 8, 0);
        Check.due("drinker(4, 0)", x.drinker(4, 0), UNKNOWN);
        Check.due("drinker(-1, 4)", x.drinker(-1, 4), UNKNOWN);
        Check.due("drinker(0, 4)", x.drinker(0, 4), OUTSIDE);
        Check.due("drinker(0, -1)", x.drinker(0, -1), OUTSIDE);
    }

    private static void gulp(String vessel, String drinker, int want) {
        GlassTax x = Check.inn("GV990" + vessel + drinker + "S01");
        Check.due("gulp of " + vessel + " by " + drinker, x.drinker(0, 3), want);
        Check.due("drink of " + vessel + " by " + drinker, x.drink(0, 1), want);
    }

    private static void gulps() {
        gulp("V940", "D90", 4);
        gulp("V940", "D20", 2);
        gulp("V900", "D90", 0);
        gulp("V940", "D91", 3);
        gulp("V940", "D21", 2);
        gulp("V910", "D91", 0);
        gulp("V900", "D91", 0);
        gulp("V950", "D92", 2);
        gulp("V960", "D92", 3);
        gulp("V910", "D92", 0);
        gulp("V980", "D12", 1);
        gulp("V990", "D93", 0);
        gulp("V990", "D00", 0);
        Check.due("gulp of nobody's glass", Check.inn("GV990D90").drinker(0, 3), 0);
        Check.due("the first glass by number, not as told",
            Check.inn("GV910V930D90S01S00").drinker(0, 3), 1);
    }

    private static void counts() {
        GlassTax x = Check.inn(FOUR);
        x.see(0, 1, 1);
        x.see(2, 1, 1);
        x.hour();
        x.hour();
        x.drink(0, 0);
        int[] want = {47, 4, 4, 3, 20, 2, 3, 2};
        for (int what = 0; what < want.length; what++) {
            Check.due("count(" + what + ")", x.count(what), want[what]);
        }
        Check.due("count(-1)", x.count(-1), OUTSIDE);
        Check.due("count(8)", x.count(8), OUTSIDE);
        Check.due("count(least)", x.count(Integer.MIN_VALUE), OUTSIDE);
    }
}
