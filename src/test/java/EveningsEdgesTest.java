/** The edges of promises 13 to 19: left, evening, pouring, wake, order, hall, judge. */
public final class EveningsEdgesTest {
    private static final int UNKNOWN = GlassTax.UNKNOWN, OUTSIDE = GlassTax.OUTSIDE, NONE = GlassTax.NONE;
    private static final int LEAST = Integer.MIN_VALUE, MOST = Integer.MAX_VALUE;
    private static final String FIVE = "V990V990V990V990V990";
    private static final String FIVE_SEATS = "S00S01S02S03S04";

    public static void main(String[] args) {
        leftOfNoGlass();
        leftByNobody();
        leftByNumber();
        leftToTheLast();
        eveningOfWhat();
        eveningOfFlatBeer();
        pouringNoughtToNine();
        soMuchDoesNotGoIn();
        likeWaysTheLeastNumber();
        figuresByGlasses();
        nothingPouredKeepsItsAge();
        wakeOfNobody();
        wakeThatCanNotBe();
        wakeTheFewest();
        wakeTheLeastOfLike();
        wakeOthersAreEmpty();
        orderOfNobody();
        orderTheLeastNumber();
        orderTheLast();
        hallNoughtToNine();
        hallBehindHours();
        Check.end();
    }

    /** "LEFT in a GLASS. UNKNOWN." */
    private static void leftOfNoGlass() {
        GlassTax x = Check.inn("GV990V980");
        for (int glass : new int[] {-1, 2, 5, LEAST, MOST}) {
            Check.due("left(" + glass + ")", x.left(glass), UNKNOWN);
        }
        Check.due("left(1)", x.left(1), 8);
        Check.due("left(4) of five", Check.inn("G" + FIVE).left(4), 9);
    }

    private static void left(String text, int... want) {
        GlassTax x = Check.inn(text);
        int[] got = new int[want.length];
        for (int g = 0; g < got.length; g++) {
            got[g] = x.left(g);
        }
        Check.dueRow("left of " + text, got, want);
    }

    /** Nobody is there, nobody SITS, nobody has THIRST, ghosts. */
    private static void leftByNobody() {
        left("GV950V900", 5, 0);
        left("GV950D90D91", 5);
        left("GV950D00S00", 5);
        left("GV950D93S00", 5);
    }

    /** "by number each DRINKER drinks of each GLASS at which it SITS, by number". */
    private static void leftByNumber() {
        left("GV950V950D60S01S00", 0, 4);
        left("GV950D31D90S10S00", 0);
        left("GV960D92D31S00S10", 1);
        left("GV960D31D92S10S00", 2);
        left("GV950V950D92D90S01S00S10", 0, 3);
    }

    /** The last drinker, the last glass. */
    private static void leftToTheLast() {
        left("G" + FIVE + "D00D00D00D70S34", 9, 9, 9, 9, 2);
        left("GV110V110V110V110V110D90" + FIVE_SEATS, 0, 0, 0, 0, 0);
        left("GV110V110V110V110V110D40" + FIVE_SEATS, 0, 0, 0, 0, 1);
        Check.due("thirst", Check.inn("GV110V110V110V110V110D90" + FIVE_SEATS).evening(1), 4);
    }

    /** "TAXES of all (what = 0), THIRST of all (1). OUTSIDE." */
    private static void eveningOfWhat() {
        GlassTax x = Check.inn("GV990D93D40S10");
        Check.due("evening(0)", x.evening(0), 7);
        Check.due("evening(1): a ghost's, too", x.evening(1), 9);
        for (int what : new int[] {-1, 2, LEAST, MOST}) {
            Check.due("evening(" + what + ")", x.evening(what), OUTSIDE);
        }
        Check.due("the least of all", Check.inn("G").evening(0) + Check.inn("G").evening(1), 0);
        Check.due("the greatest taxes", Check.inn("G" + FIVE).evening(0), 55);
        Check.due("the greatest thirst", Check.inn("GD90D91D92D93").evening(1), 36);
    }

    /** Behind AN EVENING "now": ages are those of now. */
    private static void eveningOfFlatBeer() {
        GlassTax x = Check.inn("GV990D40S00");
        Check.hours(x, 2);
        Check.due("evening(0) at age 2", x.evening(0), 7);
        Check.hours(x, 1);
        Check.due("evening(0) at age 3", x.evening(0), 0);
        Check.due("evening(1) at age 3", x.evening(1), 0);
    }

    private static void pouring(GlassTax x, int n, int taxes, int way) {
        Check.due("pouring(" + n + ", false)", x.pouring(n, false), taxes);
        Check.due("pouring(" + n + ", true)", x.pouring(n, true), way);
    }

    /** "POUR n (0 to 9)"; "OUTSIDE: n." */
    private static void pouringNoughtToNine() {
        GlassTax x = Check.inn("GV900V900");
        pouring(x, 0, 0, 0);
        pouring(x, 9, 11, 9);
        for (int n : new int[] {-1, 10, LEAST, MOST}) {
            pouring(x, n, OUTSIDE, OUTSIDE);
        }
        pouring(Check.inn("GV990"), 10, OUTSIDE, OUTSIDE);
    }

    /** "none more than goes in"; "NONE: so much does not go in". */
    private static void soMuchDoesNotGoIn() {
        GlassTax x = Check.inn("GV540V330V210");
        pouring(x, 0, 7 - 1 + 5 + 3, 0);
        pouring(x, 2, 7 + 5 + 4, 101);
        pouring(x, 3, NONE, NONE);
        pouring(x, 9, NONE, NONE);
        pouring(Check.inn("GV990"), 0, 11, 0);
        pouring(Check.inn("GV990"), 1, NONE, NONE);
        pouring(Check.inn("GV800"), 8, 10, 8);
        pouring(Check.inn("GV800"), 9, NONE, NONE);
        pouring(Check.inn("GV900"), 9, 11, 9);
        pouring(Check.inn("GD90"), 1, NONE, NONE);
    }

    /** "of like ones the least number". */
    private static void likeWaysTheLeastNumber() {
        pouring(Check.inn("GV900V900V900V900V900"), 1, 1, 1);
        pouring(Check.inn("GV900V900V900V900V900"), 4, 4, 4);
        pouring(Check.inn("GV900V900V900V900V900"), 5, 5, 14);
        // both drink all of it, wherever it is
        pouring(Check.inn("GV900V900D90D90S00S11"), 9, 0, 9);
        // 5 or more into the latter would be half of it: 4 at most, then the rest ahead of it
        pouring(Check.inn("GV900V900V900"), 9, 9, 144);
    }

    /** "told as figures by GLASSES". */
    private static void figuresByGlasses() {
        pouring(Check.inn("GV900V110V110V110V110"), 9, 11 + 12, 90000);
        pouring(Check.inn("GV110V110V110V110V900"), 9, 11 + 12, 9);
        pouring(Check.inn("GV100V100V100V100V100"), 5, 15, 11111);
        pouring(Check.inn("GV200V300V400D92D92D92S00S11S22"), 9, 3 + 4 + 4, 234);
    }

    /** "(A GLASS into which nothing is POURED keeps its AGE.)" */
    private static void nothingPouredKeepsItsAge() {
        GlassTax x = Check.inn("GV950V930V900");
        Check.hours(x, 3);
        pouring(x, 0, 0, 0);
        pouring(x, 4, 4, 4);
        pouring(x, 5, 7, 5);
        x = Check.inn("GV980V930");
        Check.hours(x, 3);
        // into glass 1 makes 3 + 1 taxed again, into glass 0 all 9
        pouring(x, 1, 4, 1);
        pouring(x, 7, 11 + 11, 16);
    }

    private static void wake(String text, int want) {
        Check.due("wake() of " + text, Check.inn(text).wake(), want);
    }

    /** No glass is needed where nobody but ghosts has any thirst. */
    private static void wakeOfNobody() {
        wake("G", 0);
        wake("G" + FIVE, 0);
        wake("GV990D00D01D02S00S10S20", 0);
        wake("GV990D93D93S00S10", 0);
        wake("GV990D93", 0);
    }

    /** "NONE". */
    private static void wakeThatCanNotBe() {
        wake("GD10", NONE);
        wake("G" + FIVE + "D10", NONE);
        wake("GV110D20S00", NONE);
        wake("GV110D10S00", 1);
        wake("GV910D91S00", NONE);
        wake("GV910D81S00", 1);
        wake("GV900D52S00", NONE);
        wake("GV900D42S00", 1);
        wake("GV900D90D10S00S10", NONE);
        wake("GV900D80D10S00S10", 1);
        wake("GV900D80D11S00S10", NONE);
    }

    /** "the fewest GLASSES": also where their bits are a greater number. */
    private static void wakeTheFewest() {
        wake("GV200V200V400D40S00S01S02", 4);
        wake("GV100V100V100V100V500D50" + FIVE_SEATS, 16);
        wake("GV100V100V100V100V100D50" + FIVE_SEATS, 31);
        wake("GV100V100V100V100V100D60" + FIVE_SEATS, NONE);
        wake("GV300V300V300V400V400D80" + FIVE_SEATS, 24);
    }

    /** "of like ones the least". */
    private static void wakeTheLeastOfLike() {
        wake("GV100V100V100V100V100D10" + FIVE_SEATS, 1);
        wake("GV100V100V100V100V100D20" + FIVE_SEATS, 3);
        wake("GV100V100V100V100V100D40" + FIVE_SEATS, 15);
        wake("GV100V300V200V300D50S00S01S02S03", 6);
    }

    /** "these full, of AGE 0, others empty". */
    private static void wakeOthersAreEmpty() {
        // what is in them now counts for nothing: glass 0 is full, but has to be named
        wake("GV330V300D40S00S01", 3);
        wake("GV330V300D30S00S01", 1);
        GlassTax x = Check.inn("GV550D50S00");
        Check.hours(x, 5);
        Check.due("wake() of flat beer", x.wake(), 1);
        x.drink(0, 0);
        Check.due("wake() by thirst now", x.wake(), 0);
    }

    private static void order(String text, int thirst, int order) {
        GlassTax x = Check.inn(text);
        Check.due("order(false) of " + text, x.order(false), thirst);
        Check.due("order(true) of " + text, x.order(true), order);
    }

    /** "(order = true; 0: nobody)". */
    private static void orderOfNobody() {
        order("G", 0, 0);
        order("G" + FIVE, 0, 0);
        order("GD00", 0, 1);
        order("GD93", 9, 1);
    }

    /** "the least as a number". */
    private static void orderTheLeastNumber() {
        order("GD10D20", 3, 12);
        order("GD10D20D30", 6, 123);
        order("GD90D91D92D93", 36, 1234);
        order("GV990D30D30D30S00S10S20", 0, 123);
    }

    /** Only one order is best, and it is the last of all. */
    private static void orderTheLast() {
        // the rich ones drink more of a fuller glass: 3 of 7, 2 of 4, then 1 of 2
        order("GV870D10D22D42S00S10S20", 1, 321);
        order("GV870V660D60D22D21D92S00S01S10S11S20S30", 6, 4321);
        Check.due("evening(1) by number", Check.inn("GV870D10D22D42S00S10S20").evening(1), 2);
    }

    /** "HALL for an HOUR n (0 to 9)"; "OUTSIDE: n." */
    private static void hallNoughtToNine() {
        GlassTax x = Check.inn("GV990");
        int[] taxes = new int[10];
        for (int n = 0; n <= 9; n++) {
            taxes[n] = x.hall(n);
        }
        Check.dueRow("hall", taxes, 11, 11, 11, 0, 0, 0, 0, 0, 0, 0);
        for (int n : new int[] {-1, 10, LEAST, MOST}) {
            Check.due("hall(" + n + ")", x.hall(n), OUTSIDE);
        }
    }

    /** "TAXES behind n HOURS, if nothing else is done": nobody drinks, hours count from now. */
    private static void hallBehindHours() {
        GlassTax x = Check.inn("GV931V982V933D90S00");
        // 3 + (8 + 2) + 1; 2 + (6 + 2) + 1; 1 + 8 + 1; nothing, as all is flat
        int[] taxes = {x.hall(0), x.hall(1), x.hall(2), x.hall(3)};
        Check.dueRow("hall", taxes, 14, 11, 10, 0);
        Check.hours(x, 1);
        taxes = new int[] {x.hall(0), x.hall(1), x.hall(2)};
        Check.dueRow("hall an hour later", taxes, 11, 10, 0);
        Check.hours(x, 15);
        Check.due("hall(9) when all is old", x.hall(9), 0);
        Check.due("THE HOUR", x.count(5), 16);
    }
}
