/** The edges of promises 6, 7 and 30 and of the terms that they use: glass, drinker, count, TAX, what one drinks. */
public final class InnEdgesTest {
    private static final int UNKNOWN = GlassTax.UNKNOWN, OUTSIDE = GlassTax.OUTSIDE;
    private static final int LEAST = Integer.MIN_VALUE, MOST = Integer.MAX_VALUE;
    private static final String ALL = "GV110V220V330V440V550D10D21D32D43S04S30S34";

    public static void main(String[] args) {
        glassesThatThereAreNot();
        whatOfAGlass();
        unknownIsNamedAheadOfOutside();
        drinkersThatThereAreNot();
        whatOfADrinker();
        whoSitsWhere();
        whatToCount();
        taxByHalf();
        taxByAge();
        taxOfAThimble();
        noMoreThanItMay();
        noMoreThanItsThirst();
        theFirstOfItsGlasses();
        Check.end();
    }

    /** "UNKNOWN (there is no such GLASS ..)". */
    private static void glassesThatThereAreNot() {
        GlassTax x = Check.inn(ALL);
        Check.due("the first glass", x.glass(0, 0), 1);
        Check.due("the last glass", x.glass(4, 0), 5);
        for (int glass : new int[] {-1, 5, 6, 32, LEAST, MOST}) {
            Check.due("glass(" + glass + ", 0)", x.glass(glass, 0), UNKNOWN);
            Check.due("left(" + glass + ")", x.left(glass), UNKNOWN);
        }
        x = Check.inn("GV110D00");
        Check.due("the only glass", x.glass(0, 0), 1);
        Check.due("one behind the only glass", x.glass(1, 0), UNKNOWN);
    }

    /** "MEASURE (what = 0) .. DRINKERS that SIT at it (5: bits)"; "OUTSIDE". */
    private static void whatOfAGlass() {
        GlassTax x = Check.inn(ALL);
        int[] got = new int[6];
        for (int what = 0; what < got.length; what++) {
            got[what] = x.glass(4, what);
        }
        Check.dueRow("glass 4", got, 5, 5, 0, 0, 7, 9);
        for (int what : new int[] {-1, 6, LEAST, MOST}) {
            Check.due("glass(4, " + what + ")", x.glass(4, what), OUTSIDE);
        }
    }

    private static void unknownIsNamedAheadOfOutside() {
        GlassTax x = Check.inn(ALL);
        Check.due("glass(5, 6)", x.glass(5, 6), UNKNOWN);
        Check.due("glass(-1, -1)", x.glass(-1, -1), UNKNOWN);
        Check.due("drinker(4, 4)", x.drinker(4, 4), UNKNOWN);
        Check.due("drinker(-1, -1)", x.drinker(-1, -1), UNKNOWN);
    }

    /** "UNKNOWN (there is no such .. DRINKER ..)". */
    private static void drinkersThatThereAreNot() {
        GlassTax x = Check.inn(ALL);
        Check.due("the first drinker", x.drinker(0, 0), 1);
        Check.due("the last drinker", x.drinker(3, 0), 4);
        for (int drinker : new int[] {-1, 4, 5, 32, LEAST, MOST}) {
            Check.due("drinker(" + drinker + ", 0)", x.drinker(drinker, 0), UNKNOWN);
        }
        x = Check.inn("GV110V110D70");
        Check.due("the only drinker", x.drinker(0, 0), 7);
        Check.due("one behind the only drinker", x.drinker(1, 0), UNKNOWN);
    }

    /** "THIRST (what = 0), KIND (1), GLASSES at which it SITS (2: bits) .. (3; 0: it SITS nowhere)"; "OUTSIDE". */
    private static void whatOfADrinker() {
        GlassTax x = Check.inn(ALL);
        int[] got = {x.drinker(3, 0), x.drinker(3, 1), x.drinker(3, 2), x.drinker(3, 3)};
        Check.dueRow("drinker 3", got, 4, 3, 17, 0);
        Check.due("nowhere: the first of its glasses", x.drinker(1, 3), 0);
        for (int what : new int[] {-1, 4, LEAST, MOST}) {
            Check.due("drinker(3, " + what + ")", x.drinker(3, what), OUTSIDE);
        }
    }

    private static void whoSitsWhere() {
        GlassTax x = Check.inn(ALL);
        int[] sitters = new int[5];
        for (int g = 0; g < 5; g++) {
            sitters[g] = x.glass(g, 5);
        }
        Check.dueRow("sitters", sitters, 8, 0, 0, 0, 9);
        x = Check.inn("GV110D00D00D00D00S00S10S20S30");
        Check.due("all four at one", x.glass(0, 5), 15);
        x = Check.inn("GV110V110V110V110V110D00S00S01S02S03S04");
        Check.due("one at all five", x.drinker(0, 2), 31);
    }

    /** "0 letters of THE TEXT .. 7 SEEN. OUTSIDE." */
    private static void whatToCount() {
        GlassTax x = Check.inn(ALL);
        x.hour();
        x.see(3, 9, 9);
        int[] got = new int[8];
        for (int what = 0; what < got.length; what++) {
            got[what] = x.count(what);
        }
        Check.dueRow("count", got, 42, 5, 4, 25, 10, 1, 1, 1);
        for (int what : new int[] {-1, 8, 9, LEAST, MOST}) {
            Check.due("count(" + what + ")", x.count(what), OUTSIDE);
        }
    }

    private static int[] taxRow(int measure, int kind, int hours) {
        int[] row = new int[measure + 1];
        for (int c = 0; c <= measure; c++) {
            GlassTax x = Check.inn("GV" + measure + c + kind);
            Check.hours(x, hours);
            row[c] = x.glass(0, 4);
        }
        return row;
    }

    /** "2 more, if that is any, and it is full by half or more (twice what is in it is its MEASURE, or more)". */
    private static void taxByHalf() {
        Check.dueRow("measure 1", taxRow(1, 0, 0), 0, 3);
        Check.dueRow("measure 2", taxRow(2, 0, 0), 0, 3, 4);
        Check.dueRow("measure 3", taxRow(3, 0, 0), 0, 1, 4, 5);
        Check.dueRow("measure 4", taxRow(4, 0, 0), 0, 1, 4, 5, 6);
        Check.dueRow("measure 5", taxRow(5, 0, 0), 0, 1, 2, 5, 6, 7);
        Check.dueRow("measure 8", taxRow(8, 0, 0), 0, 1, 2, 3, 6, 7, 8, 9, 10);
        Check.dueRow("measure 9", taxRow(9, 0, 0), 0, 1, 2, 3, 4, 7, 8, 9, 10, 11);
        Check.dueRow("cracked", taxRow(4, 1, 0), 0, 1, 4, 5, 6);
        Check.dueRow("foaming", taxRow(4, 2, 0), 0, 1, 4, 5, 6);
    }

    /** "0 if its AGE is 3 or more". */
    private static void taxByAge() {
        Check.dueRow("age 2", taxRow(4, 0, 2), 0, 1, 4, 5, 6);
        Check.dueRow("age 3", taxRow(4, 0, 3), 0, 0, 0, 0, 0);
        Check.dueRow("age 9", taxRow(4, 0, 9), 0, 0, 0, 0, 0);
        Check.dueRow("cracked, age 2", taxRow(4, 1, 2), 0, 0, 0, 1, 4);
        Check.dueRow("thimble, age 2", taxRow(4, 3, 2), 0, 0, 0, 3, 4);
        Check.dueRow("thimble, age 3", taxRow(4, 3, 3), 0, 0, 0, 0, 0);
    }

    /** "a THIMBLE's is 2 less (0 at least)"; there are no 2 more where that is nothing. */
    private static void taxOfAThimble() {
        Check.dueRow("thimble of 1", taxRow(1, 3, 0), 0, 0);
        Check.dueRow("thimble of 2", taxRow(2, 3, 0), 0, 0, 0);
        Check.dueRow("thimble of 3", taxRow(3, 3, 0), 0, 0, 0, 3);
        Check.dueRow("thimble of 6", taxRow(6, 3, 0), 0, 0, 0, 3, 4, 5, 6);
        Check.dueRow("thimble of 7", taxRow(7, 3, 0), 0, 0, 0, 1, 4, 5, 6, 7);
        Check.dueRow("thimble of 9", taxRow(9, 3, 0), 0, 0, 0, 1, 2, 5, 6, 7, 8, 9);
    }

    /** What one of this thirst and kind would drink of 0, 1, .. 9. */
    private static int[] gulpRow(int thirst, int kind) {
        int[] row = new int[10];
        for (int c = 0; c <= 9; c++) {
            row[c] = Check.inn("GV9" + c + "0D" + thirst + kind + "S00").drinker(0, 3);
        }
        return row;
    }

    /** "POLITE: 1 less than what is in it, 0 at least; RICH: half of what is in it, cut; GHOST: nothing". */
    private static void noMoreThanItMay() {
        Check.dueRow("plain", gulpRow(9, 0), 0, 1, 2, 3, 4, 5, 6, 7, 8, 9);
        Check.dueRow("polite", gulpRow(9, 1), 0, 0, 1, 2, 3, 4, 5, 6, 7, 8);
        Check.dueRow("rich", gulpRow(9, 2), 0, 0, 1, 1, 2, 2, 3, 3, 4, 4);
        Check.dueRow("ghost", gulpRow(9, 3), 0, 0, 0, 0, 0, 0, 0, 0, 0, 0);
    }

    /** "as much as its THIRST, but no more than it may". */
    private static void noMoreThanItsThirst() {
        for (int kind = 0; kind <= 3; kind++) {
            Check.dueRow("no thirst, kind " + kind, gulpRow(0, kind), 0, 0, 0, 0, 0, 0, 0, 0, 0, 0);
        }
        Check.dueRow("plain, thirst 3", gulpRow(3, 0), 0, 1, 2, 3, 3, 3, 3, 3, 3, 3);
        Check.dueRow("polite, thirst 3", gulpRow(3, 1), 0, 0, 1, 2, 3, 3, 3, 3, 3, 3);
        Check.dueRow("rich, thirst 3", gulpRow(3, 2), 0, 0, 1, 1, 2, 2, 3, 3, 3, 3);
    }

    /** "how much it would drink of the first of these": also if that one is empty. */
    private static void theFirstOfItsGlasses() {
        Check.due("the first is empty", Check.inn("GV900V990D90S00S01").drinker(0, 3), 0);
        Check.due("the last alone", Check.inn("GV990V990V990V990V940D90S04").drinker(0, 3), 4);
        GlassTax x = Check.inn("GV950D30S00");
        x.drink(0, 0);
        Check.due("its thirst now", x.drinker(0, 3), 0);
        x = Check.inn("GV950D90S00");
        x.pour(0, 2);
        Check.due("what is in it now", x.drinker(0, 3), 7);
        Check.due("it only would: thirst stays", x.drinker(0, 0), 9);
    }
}
