/** The edges of promises 1 to 5, a sentence of the document each: a new object, write, wipe, fault, inn. */
public final class TextEdgesTest {
    private static final int OUTSIDE = GlassTax.OUTSIDE, STATE = GlassTax.STATE, FULL = GlassTax.FULL;
    private static final int UNKNOWN = GlassTax.UNKNOWN, NONE = GlassTax.NONE;
    private static final String FIGURES = "0123456789", KINDS = "0123";
    private static final String FIVE_GLASSES = "GV110V110V110V110V110";
    private static final String FOUR_DRINKERS = "D00D00D00D00";

    public static void main(String[] args) {
        nothingNobody();
        nothingIsPouredOrDrunk();
        nothingIsLeft();
        lettersAre0To255();
        sixtyLettersAtMost();
        outsideIsNamedAheadOfFull();
        wipeTellsHowLongItWas();
        whichLettersCanCome();
        whichSeatsCanCome();
        noMoreThanGoesIn();
        fiveGlassesAtMost();
        fourDrinkersAtMost();
        bothToldAhead();
        eachTwoOnce();
        onlyNotAtItsEnd();
        lengthIsSetAside();
        theFirstFaultOfSeveral();
        numberedAsTold();
        innOfAFault();
        innOfTheLeastAndTheMost();
        madeAnew();
        madeLess();
        Check.end();
    }

    /** "Nothing, nobody." */
    private static void nothingNobody() {
        GlassTax x = new GlassTax();
        for (int what = 0; what <= 7; what++) {
            Check.due("new: count(" + what + ")", x.count(what), 0);
        }
        for (int i = 0; i < 5; i++) {
            Check.due("new: glass(" + i + ", 0)", x.glass(i, 0), UNKNOWN);
            Check.due("new: drinker(" + i + ", 0)", x.drinker(i, 0), UNKNOWN);
            Check.due("new: thirsts(" + i + ")", x.thirsts(i), UNKNOWN);
            Check.due("new: see(" + i + ", 1, 1)", x.see(i, 1, 1), UNKNOWN);
            Check.due("new: left(" + i + ")", x.left(i), UNKNOWN);
            Check.dueShare(x, i, UNKNOWN, UNKNOWN);
        }
        Check.due("new: wipe()", x.wipe(), 0);
        Check.due("new: unsee()", x.unsee(), 0);
        Check.due("new: seed(0)", x.seed(0), 0);
        Check.due("new: rests(0, 1, 0)", x.rests(0, 1, 0), UNKNOWN);
    }

    private static void nothingIsPouredOrDrunk() {
        GlassTax x = new GlassTax();
        Check.due("new: pour(0, 1)", x.pour(0, 1), UNKNOWN);
        Check.due("new: drink(0, 0)", x.drink(0, 0), UNKNOWN);
        Check.due("new: tip(0, 1)", x.tip(0, 1), UNKNOWN);
        Check.due("new: tip(0, 0)", x.tip(0, 0), UNKNOWN);
        Check.due("new: undo()", x.undo(), STATE);
        Check.due("new: again(0)", x.again(0), STATE);
        Check.due("new: again(1)", x.again(1), STATE);
        Check.due("new: hour()", x.hour(), 0);
        Check.due("new: THE HOUR", x.count(5), 1);
        Check.due("new: keep(0)", x.keep(0), 1);
        Check.due("new: undo() the hour", x.undo(), 0);
        Check.due("new: again(0) of what was kept", x.again(0), 1);
    }

    private static void nothingIsLeft() {
        GlassTax x = new GlassTax();
        Check.due("new: evening(0)", x.evening(0), 0);
        Check.due("new: evening(1)", x.evening(1), 0);
        Check.due("new: pouring(0, false)", x.pouring(0, false), 0);
        Check.due("new: pouring(0, true)", x.pouring(0, true), 0);
        Check.due("new: pouring(1, false)", x.pouring(1, false), NONE);
        Check.due("new: wake()", x.wake(), 0);
        Check.due("new: order(false)", x.order(false), 0);
        Check.due("new: order(true)", x.order(true), 0);
        Check.due("new: hall(9)", x.hall(9), 0);
        Check.due("new: judge(1, 300)", x.judge(1, 300), NONE);
        Check.due("new: judge(1, 1)", x.judge(1, 1), 0);
        Check.dueLeak(x, 0, 10, 1, 1);
        Check.dueLeak(x, 1, 10, 0, 1);
        Check.due("new: nights(30)", x.nights(30), 0);
        Check.due("new: fault()", x.fault(), 0);
        Check.due("new: inn()", x.inn(), STATE);
    }

    /** "A letter (0 to 255) comes behind THE TEXT"; "OUTSIDE". */
    private static void lettersAre0To255() {
        GlassTax x = new GlassTax();
        int[] outside = {-1, 256, 'G' + 256, 'G' - 256, 65536 + 'G', Integer.MIN_VALUE, Integer.MAX_VALUE};
        for (int letter : outside) {
            Check.due("write(" + letter + ")", x.write(letter), OUTSIDE);
        }
        Check.due("no letter yet", x.count(0), 0);
        Check.due("write(0)", x.write(0), 1);
        Check.due("write(255)", x.write(255), 2);
        for (int letter = 0; letter <= 255; letter++) {
            Check.due("write(" + letter + ")", new GlassTax().write(letter), 1);
        }
    }

    /** "letters (60 at most)"; "FULL: there are 60". */
    private static void sixtyLettersAtMost() {
        GlassTax x = new GlassTax();
        for (int i = 1; i <= 60; i++) {
            Check.due("letter " + i, x.write('0'), i);
        }
        Check.due("letter 61", x.write('0'), FULL);
        Check.due("letter 61 again", x.write(0), FULL);
        Check.due("still 60", x.count(0), 60);
        Check.due("wipe() of a full one", x.wipe(), 60);
        Check.due("room again", x.write('G'), 1);
        Check.due("fault() of the new text", x.fault(), NONE);
    }

    /** "of several the first that a call names": write names OUTSIDE ahead of FULL. */
    private static void outsideIsNamedAheadOfFull() {
        GlassTax x = Check.withText("0".repeat(60));
        Check.due("write(-1) into a full one", x.write(-1), OUTSIDE);
        Check.due("write(256) into a full one", x.write(256), OUTSIDE);
        Check.due("write(255) into a full one", x.write(255), FULL);
    }

    /** "THE TEXT is empty: how long it was." */
    private static void wipeTellsHowLongItWas() {
        GlassTax x = new GlassTax();
        for (int length = 0; length <= 60; length += 12) {
            Check.write(x, "G".repeat(length));
            Check.due("wipe() of " + length, x.wipe(), length);
            Check.due("count(0) behind it", x.count(0), 0);
            Check.due("fault() behind it", x.fault(), 0);
        }
        Check.due("wipe() twice", x.wipe(), 0);
    }

    private static void fault(String text, int want) {
        Check.due("fault() of " + text, Check.withText(text).fault(), want);
    }

    /** Each of the 256 letters behind a beginning: those told can come, each other one is the fault. */
    private static void canCome(String beginning, String letters) {
        for (int letter = 0; letter <= 255; letter++) {
            GlassTax x = Check.withText(beginning);
            x.write(letter);
            boolean faulty = x.fault() == beginning.length();
            Check.due("fault() of " + beginning + " and " + letter, faulty == (letters.indexOf(letter) < 0));
        }
    }

    /** "MEASURE m (1 to 9)", "KIND k: 0 .. 3", "THIRST t (0 to 9)". */
    private static void whichLettersCanCome() {
        canCome("", "G");
        canCome("G", "VD");
        canCome("GV", "123456789");
        canCome("GV1", "01");
        canCome("GV8", "012345678");
        canCome("GV9", FIGURES);
        canCome("GV90", KINDS);
        canCome("GV99", KINDS);
        canCome("GV993", "VD");
        canCome("GD", FIGURES);
        canCome("GD0", KINDS);
        canCome("GD9", KINDS);
        canCome("GD93", "VD");
    }

    /** "DRINKER i SITS at GLASS j". */
    private static void whichSeatsCanCome() {
        canCome("GV110D00", "VDS");
        canCome("GV110D00S", "0");
        canCome("GV110D00S0", "0");
        canCome("GV110D00S00", "VD");
        canCome("GV110V110D00D00D00S", "012");
        canCome("GV110V110D00D00D00S2", "01");
        canCome("GV110V110D00D00S00S01", "VDS");
        canCome("GV110V110D00D00S00S01S", "1");
        canCome("GV110V110D00D00S10S", "01");
        canCome("GV110V110D00D00S10S1", "1");
        canCome(FIVE_GLASSES, "D");
        canCome("G" + FOUR_DRINKERS, "V");
        canCome(FIVE_GLASSES + FOUR_DRINKERS, "S");
        canCome(FIVE_GLASSES + FOUR_DRINKERS + "S", "0123");
        canCome(FIVE_GLASSES + FOUR_DRINKERS + "S3", "01234");
        canCome(FIVE_GLASSES + "D00S00S01S02S03S04", "D");
        canCome("GV110" + FOUR_DRINKERS + "S00S10S20S30", "V");
    }

    /** "with c in it (0 to m)". */
    private static void noMoreThanGoesIn() {
        for (int m = 1; m <= 9; m++) {
            for (int c = 0; c <= 9; c++) {
                fault("GV" + m + c + "0", c <= m ? NONE : 3);
            }
        }
    }

    /** "GLASSES (5 at most)". */
    private static void fiveGlassesAtMost() {
        fault(FIVE_GLASSES, NONE);
        fault(FIVE_GLASSES + "V", 21);
        fault(FIVE_GLASSES + "V110", 21);
        fault(FIVE_GLASSES + "D00V", 24);
        Check.due("inn() of five glasses", Check.withText(FIVE_GLASSES).inn(), 50);
        Check.due("inn() of six glasses", Check.withText(FIVE_GLASSES + "V110").inn(), STATE);
    }

    /** "DRINKERS (4 at most)". */
    private static void fourDrinkersAtMost() {
        fault("G" + FOUR_DRINKERS, NONE);
        fault("G" + FOUR_DRINKERS + "D", 13);
        fault("G" + FOUR_DRINKERS + "D00", 13);
        fault("G" + FOUR_DRINKERS + "V110D", 17);
        Check.due("inn() of four drinkers", Check.withText("G" + FOUR_DRINKERS).inn(), 4);
        Check.due("inn() of five drinkers", Check.withText("G" + FOUR_DRINKERS + "D00").inn(), STATE);
    }

    /** "both told ahead". */
    private static void bothToldAhead() {
        fault("GS00V110D00", 1);
        fault("GV110S00D00", 5);
        fault("GD00S00V110", 4);
        fault("GV110D00S01V110", 10);
        fault("GV110D00S10D00", 9);
        fault("GV110D00V110D00S11", NONE);
        fault("GV110D00S00V110S01D00S10S11", NONE);
    }

    /** "each two once". */
    private static void eachTwoOnce() {
        fault("GV110V110D00S01S01", 17);
        fault("GV110V110D00D00S01S11S01", 23);
        fault("GV110V110D00D00S01S10", NONE);
        fault("GV110D00S00S00", 11);
        fault("GV110D00S00V110S00", 17);
        fault("GV110D00S00V110S01S", 18);
    }

    /** "its length, if it is only not at its end". */
    private static void onlyNotAtItsEnd() {
        String whole = "GV110D00S00";
        int[] want = {0, NONE, 2, 3, 4, NONE, 6, 7, NONE, 9, 10, NONE};
        for (int length = 0; length <= whole.length(); length++) {
            fault(whole.substring(0, length), want[length]);
        }
    }

    /** "(its length set aside)": a full text to which the last part's end is missing is only not at its end. */
    private static void lengthIsSetAside() {
        String seats = "S00S01S02S03S10S11S12S13S20S21";
        String text = "GV110V110V110V110" + FOUR_DRINKERS + seats;
        Check.due("length", text.length(), 59);
        fault(text, NONE);
        fault(text + "S", 60);
        fault(text + "V", 60);
        fault(text + "D", 59);
        fault(text + "G", 59);
        GlassTax x = Check.withText(text + "S22");
        Check.due("count(0): the rest did not go in", x.count(0), 60);
        Check.due("fault() of it", x.fault(), 60);
        Check.due("inn() of it", x.inn(), STATE);
        Check.due("inn() of sixty letters", Check.withText(FIVE_GLASSES + FOUR_DRINKERS + seats.substring(0, 27)).inn(), 54);
    }

    /** "the first letter by which THE TEXT can be no INN". */
    private static void theFirstFaultOfSeveral() {
        fault("XX", 0);
        fault("gG", 0);
        fault("GXX", 1);
        fault("GV0X9", 2);
        fault("GV110X" + (char) 0 + "D", 5);
        fault("GV125V", 3);
        fault("0".repeat(60), 0);
    }

    /** "numbered as they are told, each for itself". */
    private static void numberedAsTold() {
        GlassTax x = Check.inn("GD11V210D32V433S11S00D50V650");
        int[] measures = {x.glass(0, 0), x.glass(1, 0), x.glass(2, 0), x.glass(3, 0)};
        Check.dueRow("measures", measures, 2, 4, 6, UNKNOWN);
        int[] thirsts = {x.drinker(0, 0), x.drinker(1, 0), x.drinker(2, 0), x.drinker(3, 0)};
        Check.dueRow("thirsts", thirsts, 1, 3, 5, UNKNOWN);
        int[] seats = {x.drinker(0, 2), x.drinker(1, 2), x.drinker(2, 2)};
        Check.dueRow("seats", seats, 1, 2, 0);
    }

    /** "STATE: a FAULT." */
    private static void innOfAFault() {
        GlassTax x = Check.inn("GV530D42S00");
        x.hour();
        for (String text : new String[] {"", "X", "GV", "GV53", "GV530D42S0", "GV530D42S00S"}) {
            Check.due("inn() of " + text, Check.innAnew(x, text), STATE);
            Check.due("THE INN stays", x.count(1) * 100 + x.count(2) * 10 + x.count(5), 111);
        }
    }

    /** "G, then PARTS, none or more"; "10 times GLASSES, and DRINKERS". */
    private static void innOfTheLeastAndTheMost() {
        Check.due("inn() of G", Check.withText("G").inn(), 0);
        Check.due("inn() of a glass", Check.withText("GV100").inn(), 10);
        Check.due("inn() of a drinker", Check.withText("GD00").inn(), 1);
        Check.due("inn() of all", Check.withText(FIVE_GLASSES + FOUR_DRINKERS).inn(), 54);
        GlassTax x = Check.withText("G");
        x.inn();
        Check.due("THE TEXT is still there", x.count(0), 1);
        Check.due("inn() of the same text", x.inn(), 0);
    }

    /** "THE ROW of ACTS is empty, what was kept is gone; SEEN, THE SEED stay"; "AGE 0, THE HOUR is 0". */
    private static void madeAnew() {
        GlassTax x = Check.inn("GV540D40S00");
        x.hour();
        x.drink(0, 0);
        x.keep(0);
        x.keep(1);
        x.see(0, 4, 0);
        x.seed(-5);
        Check.due("inn() of the same text", x.inn(), 11);
        Check.due("acts", x.count(6), 0);
        Check.due("undo()", x.undo(), STATE);
        Check.due("again(0)", x.again(0), STATE);
        Check.due("again(1)", x.again(1), STATE);
        Check.due("seen", x.count(7), 1);
        Check.due("THE HOUR", x.count(5), 0);
        Check.due("age", x.glass(0, 3), 0);
        Check.due("in it", x.glass(0, 1), 4);
        Check.due("thirst", x.drinker(0, 0), 4);
        Check.due("THE SEED", x.seed(0), -5);
    }

    /** An inn of fewer glasses and drinkers: nothing of the greater one is left in any sum. */
    private static void madeLess() {
        String great = "GV993V992V991V990V990D90D91D92D93S00S11S22S33S34";
        for (String less : new String[] {"G", "GV110", "GD10", "GV110D10", "GV100V110V100D00D10S11"}) {
            GlassTax x = Check.inn(great);
            x.hour();
            x.keep(0);
            Check.due("inn() of " + less + " is not refused", Check.innAnew(x, less) >= 0);
            sameAsNew(x, Check.inn(less), less);
        }
    }

    private static void sameAsNew(GlassTax x, GlassTax fresh, String text) {
        for (int what = 0; what <= 7; what++) {
            Check.due("count(" + what + ") of " + text, x.count(what), fresh.count(what));
        }
        for (int i = 0; i < 5; i++) {
            Check.due("glass(" + i + ", 5) of " + text, x.glass(i, 5), fresh.glass(i, 5));
            Check.due("drinker(" + i + ", 2) of " + text, x.drinker(i, 2), fresh.drinker(i, 2));
            Check.due("left(" + i + ") of " + text, x.left(i), fresh.left(i));
        }
        Check.due("evening(0) of " + text, x.evening(0), fresh.evening(0));
        Check.due("evening(1) of " + text, x.evening(1), fresh.evening(1));
        Check.due("pouring(1, true) of " + text, x.pouring(1, true), fresh.pouring(1, true));
        Check.due("wake() of " + text, x.wake(), fresh.wake());
        Check.due("order(true) of " + text, x.order(true), fresh.order(true));
        Check.due("hall(3) of " + text, x.hall(3), fresh.hall(3));
        Check.due("leak(1, 5, false) of " + text, x.leak(1, 5, false), fresh.leak(1, 5, false));
        Check.due("nights(30) of " + text, x.nights(30), fresh.nights(30));
        Check.due("hour() of " + text, x.hour(), fresh.hour());
    }
}
