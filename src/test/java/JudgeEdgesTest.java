/** The edges of promise 19: told doings, judged. */
public final class JudgeEdgesTest {
    private static final int OUTSIDE = GlassTax.OUTSIDE, NONE = GlassTax.NONE;
    private static final String ALL = "GV910V910V910V910V990D90D90D90D90S34S00";

    public static void main(String[] args) {
        oneToFourDoings();
        noughtOrMore();
        threeFiguresEach();
        noughtsAhead();
        poured();
        drunk();
        tipped();
        anHour();
        noSuchDoing();
        thePlaceOfTheFirst();
        eachBehindTheOther();
        Check.end();
    }

    private static void judge(GlassTax x, int n, long row, int want) {
        Check.due("judge(" + n + ", " + row + ")", x.judge(n, row), want);
    }

    private static void one(GlassTax x, int doing, boolean canBe) {
        judge(x, 1, doing, canBe ? NONE : 0);
    }

    /** "n doings (1 to 4)"; "OUTSIDE: n". */
    private static void oneToFourDoings() {
        GlassTax x = Check.inn(ALL);
        for (int n : new int[] {0, -1, 5, Integer.MIN_VALUE, Integer.MAX_VALUE}) {
            judge(x, n, 300, OUTSIDE);
            judge(x, n, 0, OUTSIDE);
            judge(x, n, -1, OUTSIDE);
        }
        judge(x, 1, 300L, NONE);
        judge(x, 2, 300300L, NONE);
        judge(x, 3, 300300300L, NONE);
        judge(x, 4, 300300300300L, NONE);
    }

    /** "row (0 or more". */
    private static void noughtOrMore() {
        GlassTax x = Check.inn(ALL);
        for (int n = 1; n <= 4; n++) {
            judge(x, n, -1L, OUTSIDE);
            judge(x, n, Long.MIN_VALUE, OUTSIDE);
            judge(x, n, -300L, OUTSIDE);
            judge(x, n, 0L, 0);
        }
    }

    /** ", 3 n figures at most)". */
    private static void threeFiguresEach() {
        GlassTax x = Check.inn(ALL);
        judge(x, 1, 999L, 0);
        judge(x, 1, 1000L, OUTSIDE);
        judge(x, 2, 999999L, 0);
        judge(x, 2, 1000000L, OUTSIDE);
        judge(x, 3, 999999999L, 0);
        judge(x, 3, 1000000000L, OUTSIDE);
        judge(x, 4, 999999999999L, 0);
        judge(x, 4, 1000000000000L, OUTSIDE);
        judge(x, 4, Long.MAX_VALUE, OUTSIDE);
        judge(x, 1, (1L << 32) + 300, OUTSIDE);
        judge(x, 2, 300L << 32, OUTSIDE);
    }

    /** A row of fewer figures has noughts ahead. */
    private static void noughtsAhead() {
        GlassTax x = Check.inn(ALL);
        judge(x, 1, 1L, NONE);
        judge(x, 2, 1300L, NONE);
        judge(x, 2, 300L, 0);
        judge(x, 3, 11021031L, NONE);
        judge(x, 4, 1011021031L, NONE);
        judge(x, 4, 11021031L, 0);
    }

    /** "0 and two figures: POURED n (the latter) into that GLASS". */
    private static void poured() {
        GlassTax x = Check.inn(ALL);
        one(x, 1, true);
        one(x, 9, true);
        one(x, 31, true);
        one(x, 0, false);
        one(x, 30, false);
        one(x, 41, false);
        one(x, 51, false);
        one(x, 99, false);
        GlassTax y = Check.inn("GV910V910V910V910V910");
        one(y, 41, true);
    }

    /** "1, a DRINKER, a GLASS: DRUNK". */
    private static void drunk() {
        GlassTax x = Check.inn(ALL);
        one(x, 100, true);
        one(x, 134, true);
        one(x, 101, false);
        one(x, 130, false);
        one(x, 140, false);
        one(x, 105, false);
        one(x, 199, false);
        one(Check.inn("GV900D90S00"), 100, true);
        one(Check.inn("GV990D00S00"), 100, true);
        one(Check.inn("GV990D93S00"), 100, true);
    }

    /** "2, two GLASSES: TIPPED". */
    private static void tipped() {
        GlassTax x = Check.inn(ALL);
        one(x, 201, true);
        one(x, 240, true);
        one(x, 204, false);
        one(x, 200, false);
        one(x, 244, false);
        one(x, 205, false);
        one(x, 250, false);
        one(x, 255, false);
        one(Check.inn("GV900V900"), 201, false);
        one(Check.inn("GV910V900"), 201, true);
        one(Check.inn("GV910V900"), 210, false);
    }

    /** "3, 0, 0: AN HOUR". */
    private static void anHour() {
        GlassTax x = Check.inn(ALL);
        one(x, 300, true);
        for (int doing = 301; doing <= 399; doing++) {
            one(x, doing, false);
        }
        one(new GlassTax(), 300, true);
    }

    private static void noSuchDoing() {
        GlassTax x = Check.inn(ALL);
        for (int kind = 4; kind <= 9; kind++) {
            one(x, 100 * kind, false);
            one(x, 100 * kind + 34, false);
        }
    }

    /** "the place of the first that can not be; NONE: none". */
    private static void thePlaceOfTheFirst() {
        GlassTax x = Check.inn(ALL);
        judge(x, 4, 999300300300L, 0);
        judge(x, 4, 300999300300L, 1);
        judge(x, 4, 300300999300L, 2);
        judge(x, 4, 300300300999L, 3);
        judge(x, 4, 300999300999L, 1);
        judge(x, 4, 999999999999L, 0);
        judge(x, 4, 300300300300L, NONE);
    }

    /** What was done ahead counts for what can be. */
    private static void eachBehindTheOther() {
        GlassTax x = Check.inn("GV980V100V911D90S00");
        judge(x, 2, 1001L, 1);
        judge(x, 3, 1100001L, NONE);
        judge(x, 2, 201201L, 1);
        judge(x, 2, 201210L, NONE);
        judge(x, 2, 300220L, 1);
        judge(x, 2, 220300L, NONE);
        judge(x, 3, 100100201L, 2);
        Check.due("nothing was done", x.count(6) * 100 + x.glass(0, 1) * 10 + x.glass(2, 1), 81);
    }
}
