/** The edges of promises 8 to 12, a sentence of the document each: pour, drink, tip, hour, undo. */
public final class ActsEdgesTest {
    private static final int UNKNOWN = GlassTax.UNKNOWN, OUTSIDE = GlassTax.OUTSIDE, STATE = GlassTax.STATE;
    private static final int LEAST = Integer.MIN_VALUE, MOST = Integer.MAX_VALUE;
    private static final String ALL = "GV910V910V910V910V910D90D90D90D90S34S00";

    public static void main(String[] args) {
        pourOneToNine();
        itsMeasureAtMost();
        itIsFull();
        pouredIsOfAgeNought();
        pourNamesInTurn();
        drinkKnowsBoth();
        itDoesNotSitThere();
        drinkingNothingIsAnAct();
        drunkToTheEnd();
        tipKnowsBoth();
        bothAreOne();
        oneIsEmptyOrTheOtherFull();
        asMuchAsGoesIn();
        theGreaterAge();
        hourOfEmptyGlasses();
        nineAtMost();
        cracked();
        foaming();
        foamingOnlyAtAgeOne();
        taxesOfAllThen();
        theHourHasNoEnd();
        undoOfNone();
        fourteenAtMost();
        theRowComesAround();
        refusedIsNoAct();
        eachActUndone();
        Check.end();
    }

    /** "OUTSIDE: n (1 to 9)". */
    private static void pourOneToNine() {
        GlassTax x = Check.inn("GV900V900");
        for (int n : new int[] {0, -1, 10, LEAST, MOST}) {
            Check.due("pour(0, " + n + ")", x.pour(0, n), OUTSIDE);
        }
        Check.due("nothing went in", x.glass(0, 1), 0);
        Check.due("pour(0, 1)", x.pour(0, 1), 1);
        Check.due("pour(1, 9)", x.pour(1, 9), 9);
    }

    /** "n more is in a GLASS (its MEASURE at most)". */
    private static void itsMeasureAtMost() {
        for (int measure = 1; measure <= 9; measure++) {
            for (int n = 1; n <= 9; n++) {
                GlassTax x = Check.inn("GV" + measure + "00");
                Check.due("pour(0, " + n + ") into " + measure, x.pour(0, n), n < measure ? n : measure);
                Check.due("in it", x.glass(0, 1), n < measure ? n : measure);
            }
        }
        GlassTax x = Check.inn("GV980");
        Check.due("pour(0, 9) where 1 goes in", x.pour(0, 9), 1);
    }

    /** "STATE: it is full." */
    private static void itIsFull() {
        GlassTax x = Check.inn("GV110V990V980");
        Check.due("pour(0, 1)", x.pour(0, 1), STATE);
        Check.due("pour(1, 9)", x.pour(1, 9), STATE);
        Check.due("pour(2, 1): one goes in", x.pour(2, 1), 1);
        Check.due("pour(2, 1): it is full now", x.pour(2, 1), STATE);
        x.hour();
        Check.due("pour(0, 1) does not make it young", x.pour(0, 1) * 10 + x.glass(0, 3), 10 * STATE + 1);
    }

    /** "its AGE is 0". */
    private static void pouredIsOfAgeNought() {
        GlassTax x = Check.inn("GV910V910");
        Check.hours(x, 9);
        x.pour(0, 1);
        Check.due("age of the one", x.glass(0, 3), 0);
        Check.due("age of the other", x.glass(1, 3), 9);
        Check.due("it is taxed again", x.count(3), 2);
    }

    private static void pourNamesInTurn() {
        GlassTax x = Check.inn(ALL);
        for (int glass : new int[] {-1, 5, LEAST, MOST}) {
            Check.due("pour(" + glass + ", 1)", x.pour(glass, 1), UNKNOWN);
            Check.due("pour(" + glass + ", 0)", x.pour(glass, 0), UNKNOWN);
        }
        Check.due("pour(4, 8)", x.pour(4, 8), 8);
        Check.due("pour(4, 10) into a full one", x.pour(4, 10), OUTSIDE);
        Check.due("pour(4, 0) into a full one", x.pour(4, 0), OUTSIDE);
        Check.due("pour(4, 9) into a full one", x.pour(4, 9), STATE);
    }

    /** "UNKNOWN: both". */
    private static void drinkKnowsBoth() {
        GlassTax x = Check.inn(ALL);
        for (int no : new int[] {-1, 5, LEAST, MOST}) {
            Check.due("drink(" + no + ", 0)", x.drink(no, 0), UNKNOWN);
            Check.due("drink(0, " + no + ")", x.drink(0, no), UNKNOWN);
            Check.due("drink(" + no + ", " + no + ")", x.drink(no, no), UNKNOWN);
        }
        Check.due("drink(4, 4): there are four", x.drink(4, 4), UNKNOWN);
        Check.due("drink(1, 5): unknown ahead of not sitting", x.drink(1, 5), UNKNOWN);
        Check.due("drink(3, 4)", x.drink(3, 4), 1);
    }

    /** "STATE: it does not SIT there." */
    private static void itDoesNotSitThere() {
        GlassTax x = Check.inn(ALL);
        Check.due("drink(0, 1)", x.drink(0, 1), STATE);
        Check.due("drink(1, 0)", x.drink(1, 0), STATE);
        Check.due("drink(3, 0)", x.drink(3, 0), STATE);
        Check.due("nothing was drunk", x.count(3) * 100 + x.count(4), 536);
        Check.due("drink(0, 0)", x.drink(0, 0), 1);
    }

    /** Nothing in it, no thirst, or not allowed any: how much is 0, which is no refusal. */
    private static void drinkingNothingIsAnAct() {
        for (String text : new String[] {"GV900D90S00", "GV990D00S00", "GV910D91S00", "GV900D91S00", "GV910D92S00",
            "GV990D93S00"}) {
            GlassTax x = Check.inn(text);
            Check.due("drink(0, 0) of " + text, x.drink(0, 0), 0);
            Check.due("an act", x.count(6), 1);
            Check.due("undo()", x.undo(), 0);
        }
    }

    /** "so much less is in it, so much less is its THIRST". */
    private static void drunkToTheEnd() {
        GlassTax x = Check.inn("GV950V940D90S00S01");
        Check.due("drink(0, 0)", x.drink(0, 0), 5);
        Check.due("empty", x.glass(0, 1), 0);
        Check.due("drink(0, 1)", x.drink(0, 1), 4);
        Check.due("no thirst", x.drinker(0, 0), 0);
        x = Check.inn("GV990D92S00");
        int[] gulps = {x.drink(0, 0), x.drink(0, 0), x.drink(0, 0), x.drink(0, 0)};
        Check.dueRow("the rich one, again and again", gulps, 4, 2, 1, 1);
        Check.due("1 is left", x.glass(0, 1), 1);
        Check.due("drink(0, 0) of 1", x.drink(0, 0), 0);
        Check.due("its thirst", x.drinker(0, 0), 1);
    }

    /** "UNKNOWN: both". */
    private static void tipKnowsBoth() {
        GlassTax x = Check.inn(ALL);
        for (int no : new int[] {-1, 5, LEAST, MOST}) {
            Check.due("tip(" + no + ", 0)", x.tip(no, 0), UNKNOWN);
            Check.due("tip(0, " + no + ")", x.tip(0, no), UNKNOWN);
            Check.due("tip(" + no + ", " + no + ")", x.tip(no, no), UNKNOWN);
        }
        Check.due("tip(4, 0)", x.tip(4, 0), 1);
        Check.due("tip(0, 4)", x.tip(0, 4), 2);
    }

    /** "OUTSIDE: both are one". */
    private static void bothAreOne() {
        GlassTax x = Check.inn("GV940V900V990");
        for (int glass = 0; glass < 3; glass++) {
            Check.due("tip to itself", x.tip(glass, glass), OUTSIDE);
        }
    }

    /** "STATE: the one is empty, or the other one full." */
    private static void oneIsEmptyOrTheOtherFull() {
        GlassTax x = Check.inn("GV900V990V940");
        Check.due("tip of an empty one", x.tip(0, 2), STATE);
        Check.due("tip into a full one", x.tip(2, 1), STATE);
        Check.due("tip of an empty one into a full one", x.tip(0, 1), STATE);
        Check.due("tip of a full one into an empty one", x.tip(1, 0), 9);
        Check.due("tip back", x.tip(0, 1), 9);
    }

    private static void tip(String text, int went, int one, int other) {
        GlassTax x = Check.inn(text);
        Check.due("tip(0, 1) of " + text, x.tip(0, 1), went);
        Check.due("what stays of " + text, x.glass(0, 1), one);
        Check.due("what is there of " + text, x.glass(1, 1), other);
    }

    /** "what is in a GLASS goes to another one, as much as goes in". */
    private static void asMuchAsGoesIn() {
        tip("GV940V950", 4, 0, 9);
        tip("GV940V960", 3, 1, 9);
        tip("GV940V940", 4, 0, 8);
        tip("GV990V100", 1, 8, 1);
        tip("GV110V980", 1, 0, 9);
        tip("GV990V910", 8, 1, 9);
    }

    /** "the AGE of that is the greater one of both, if any went". */
    private static void theGreaterAge() {
        GlassTax x = Check.inn("GV940V900V990");
        Check.hours(x, 2);
        x.pour(1, 1);
        Check.due("none went into the full one", x.tip(1, 2), STATE);
        Check.due("its age", x.glass(2, 3), 2);
        x.tip(0, 1);
        Check.due("the older one into the younger one", x.glass(1, 3), 2);
        Check.due("the emptied one keeps its age", x.glass(0, 3), 2);
        Check.hours(x, 1);
        Check.due("older again", x.glass(1, 3), 3);
        x.tip(1, 0);
        Check.due("into the emptied one", x.glass(0, 3), 3);
        x = Check.inn("GV940V930");
        Check.hours(x, 4);
        x.pour(0, 1);
        x.tip(0, 1);
        Check.due("the younger one into the older one", x.glass(1, 3), 4);
        Check.due("the younger one's age", x.glass(0, 3), 0);
    }

    /** "each GLASS that is not empty is of an AGE 1 more". */
    private static void hourOfEmptyGlasses() {
        GlassTax x = Check.inn("GV900V901V902V903V910D10S04");
        x.hour();
        int[] ages = new int[5];
        for (int g = 0; g < 5; g++) {
            ages[g] = x.glass(g, 3);
            Check.due("in glass " + g, x.glass(g, 1), g == 4 ? 1 : 0);
        }
        Check.dueRow("ages", ages, 0, 0, 0, 0, 1);
        x.drink(0, 4);
        x.hour();
        Check.due("drunk empty: its age stays", x.glass(4, 3), 1);
    }

    /** "(9 at most)". */
    private static void nineAtMost() {
        GlassTax x = Check.inn("GV990");
        for (int hour = 1; hour <= 12; hour++) {
            x.hour();
            Check.due("age behind " + hour, x.glass(0, 3), hour < 9 ? hour : 9);
        }
        Check.due("THE HOUR goes on", x.count(5), 12);
        Check.due("undo()", x.undo(), 11);
        Check.due("age", x.glass(0, 3), 9);
        Check.hours(x, 1);
        for (int i = 0; i < 4; i++) {
            x.undo();
        }
        Check.due("age behind 8", x.glass(0, 3), 8);
    }

    /** "CRACKED: 1 less is in it". */
    private static void cracked() {
        GlassTax x = Check.inn("GV931V301");
        int[] left = new int[5];
        for (int i = 0; i < left.length; i++) {
            x.hour();
            left[i] = x.glass(0, 1) * 100 + x.glass(0, 3) * 10 + x.glass(1, 1);
        }
        Check.dueRow("left, age", left, 210, 120, 30, 30, 30);
        x.pour(0, 1);
        x.hour();
        Check.due("poured anew", x.glass(0, 1) * 10 + x.glass(0, 3), 1);
        x = Check.inn("GV911");
        Check.due("hour() by which it is empty", x.hour(), 0);
    }

    /** "what is in it is a quarter (cut) less". */
    private static void foaming() {
        int[] left = new int[10];
        for (int c = 0; c <= 9; c++) {
            GlassTax x = Check.inn("GV9" + c + "2");
            x.hour();
            left[c] = x.glass(0, 1);
        }
        Check.dueRow("foam", left, 0, 1, 2, 3, 3, 4, 5, 6, 6, 7);
    }

    /** "FOAMING, of AGE 1 then". */
    private static void foamingOnlyAtAgeOne() {
        GlassTax x = Check.inn("GV992V940V902");
        Check.hours(x, 1);
        Check.due("behind an hour", x.glass(0, 1), 7);
        Check.hours(x, 9);
        Check.due("behind ten hours", x.glass(0, 1), 7);
        x.pour(0, 2);
        Check.hours(x, 1);
        Check.due("poured anew", x.glass(0, 1), 7);
        Check.due("tip the old one into the empty one", x.tip(1, 2), 4);
        Check.hours(x, 1);
        Check.due("it was too old to foam", x.glass(2, 1) * 10 + x.glass(2, 3), 49);
        x = Check.inn("GV942V900");
        Check.hours(x, 1);
        x.pour(1, 4);
        Check.due("a young one into one that has foamed", x.tip(1, 0), 4);
        Check.hours(x, 1);
        Check.due("it does not foam again", x.glass(0, 1) * 10 + x.glass(0, 3), 72);
        x = Check.inn("GV902V940");
        Check.due("a young one into an empty young one", x.tip(1, 0), 4);
        Check.hours(x, 1);
        Check.due("it foams", x.glass(0, 1), 3);
    }

    /** "TAXES of all then." */
    private static void taxesOfAllThen() {
        GlassTax x = Check.inn("GV940V441V442V443V400");
        int[] taxes = {x.hour(), x.count(3), x.hour(), x.count(3), x.hour(), x.count(3)};
        // 4 + (3 + 2) + (3 + 2) + (2 + 2), then 4 + (2 + 2) + 5 + 4, then all is flat
        Check.dueRow("taxes", taxes, 18, 18, 17, 17, 0, 0);
    }

    /** "THE HOUR is one more": nothing is said of a greatest one. */
    private static void theHourHasNoEnd() {
        GlassTax x = Check.inn("GV990");
        Check.hours(x, 480);
        Check.due("THE HOUR", x.count(5), 480);
        Check.due("acts", x.count(6), 14);
    }

    /** "STATE: there is none." */
    private static void undoOfNone() {
        GlassTax x = Check.inn("GV940");
        Check.due("undo()", x.undo(), STATE);
        x.pour(0, 1);
        Check.due("undo() the only one", x.undo(), 0);
        Check.due("undo() once more", x.undo(), STATE);
        Check.due("as it was", x.glass(0, 1), 4);
    }

    /** "a row (14 at most; of more the first one is forgotten)". */
    private static void fourteenAtMost() {
        for (int acts = 13; acts <= 16; acts++) {
            GlassTax x = Check.inn("GV990");
            Check.hours(x, acts);
            int kept = acts < 14 ? acts : 14;
            Check.due("acts behind " + acts, x.count(6), kept);
            for (int i = kept - 1; i >= 0; i--) {
                Check.due("undo()", x.undo(), i);
            }
            Check.due("undo() of none", x.undo(), STATE);
            Check.due("THE HOUR at last", x.count(5), acts - kept);
        }
    }

    /** Acts and undoings by turns over more than two rounds of the row. */
    private static void theRowComesAround() {
        GlassTax x = Check.inn("GV990");
        int hour = 0;
        int kept = 0;
        for (int round = 0; round < 6; round++) {
            for (int i = 0; i < 11; i++) {
                x.hour();
            }
            hour += 11;
            kept = Math.min(14, kept + 11);
            for (int i = 0; i < 5; i++) {
                kept--;
                hour--;
                Check.due("undo() in round " + round, x.undo(), kept);
                Check.due("THE HOUR in round " + round, x.count(5), hour);
            }
        }
        for (int i = 0; i < 9; i++) {
            x.undo();
        }
        Check.due("undo() of none", x.undo(), STATE);
        Check.due("THE HOUR at last", x.count(5), hour - 9);
    }

    private static void refusedIsNoAct() {
        GlassTax x = Check.inn("GV990V900D90S00");
        x.hour();
        x.pour(0, 1);
        x.pour(1, 0);
        x.pour(2, 1);
        x.drink(0, 1);
        x.drink(1, 0);
        x.tip(1, 0);
        x.tip(0, 0);
        x.tip(0, 2);
        Check.due("acts", x.count(6), 1);
        Check.due("undo() the hour", x.undo(), 0);
        Check.due("THE HOUR", x.count(5), 0);
    }

    private static int told(GlassTax x) {
        int n = x.count(5);
        for (int g = 0; g < 2; g++) {
            n = n * 100 + x.glass(g, 1) * 10 + x.glass(g, 3);
        }
        return n * 10 + x.drinker(0, 0);
    }

    /** "The last ACT is undone": what is in glasses, ages, thirst and THE HOUR are as they were. */
    private static void eachActUndone() {
        GlassTax x = Check.inn("GV952V951D70S00");
        int[] ahead = new int[5];
        ahead[0] = told(x);
        x.hour();
        ahead[1] = told(x);
        x.drink(0, 0);
        ahead[2] = told(x);
        x.tip(1, 0);
        ahead[3] = told(x);
        x.pour(0, 9);
        ahead[4] = told(x);
        x.hour();
        Check.dueRow("told", ahead, 50507, 141417, 101413, 141013, 190013);
        for (int i = 4; i >= 0; i--) {
            Check.due("undo()", x.undo(), i);
            Check.due("as it was ahead of act " + i, told(x), ahead[i]);
        }
    }
}
