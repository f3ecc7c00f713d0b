/** Promises 13 to 19: left, evening, pouring, wake, order, hall, judge. */
public final class EveningsTest {
    private static final int UNKNOWN = GlassTax.UNKNOWN, OUTSIDE = GlassTax.OUTSIDE, NONE = GlassTax.NONE;

    public static void main(String[] args) {
        evenings();
        pourings();
        pouredAges();
        wakes();
        orders();
        halls();
        judgedActs();
        judgedRows();
        nothingChanges();
        Check.end();
    }

    private static void evenings() {
        GlassTax x = Check.inn(InnTest.FOUR);
        int[] left = {0, 1, 2, 1};
        for (int g = 0; g < left.length; g++) {
            Check.due("left(" + g + ")", x.left(g), left[g]);
        }
        Check.due("left(4)", x.left(4), UNKNOWN);
        Check.due("left(-1)", x.left(-1), UNKNOWN);
        Check.due("evening(0)", x.evening(0), 3);
        Check.due("evening(1)", x.evening(1), 17);
        Check.due("evening(2)", x.evening(2), OUTSIDE);
        Check.due("evening(-1)", x.evening(-1), OUTSIDE);
        x = Check.inn("GV930V930D41D90S01S00S10");
        Check.due("glasses by number: left(0)", x.left(0), 0);
        Check.due("glasses by number: left(1)", x.left(1), 1);
        Check.due("thirst", x.evening(1), 8);
    }

    private static void pouring(GlassTax x, int n, int taxes, int way) {
        Check.due("pouring(" + n + ", false)", x.pouring(n, false), taxes);
        Check.due("pouring(" + n + ", true)", x.pouring(n, true), way);
    }

    private static void pourings() {
        GlassTax x = Check.inn("GV500V500D90S00");
        pouring(x, 0, 0, 0);
        pouring(x, 3, 0, 30);
        pouring(x, 6, 1, 51);
        pouring(x, 7, 2, 52);
        pouring(x, 9, 6, 54);
        pouring(x, 10, OUTSIDE, OUTSIDE);
        pouring(x, -1, OUTSIDE, OUTSIDE);
        x = Check.inn("GV900V900");
        pouring(x, 2, 2, 2);
        pouring(x, 5, 5, 14);
        pouring(x, 8, 8, 44);
        pouring(x, 9, 11, 9);
        x = Check.inn("GV330");
        pouring(x, 0, 5, 0);
        pouring(x, 1, NONE, NONE);
        x = Check.inn("GV310V950");
        pouring(x, 6, 16, 24);
        pouring(x, 7, NONE, NONE);
        x = Check.inn("GV100V100V100V100V100");
        pouring(x, 5, 15, 11111);
        pouring(x, 6, NONE, NONE);
        pouring(x, 1, 3, 1);
        pouring(Check.inn("GD90"), 0, 0, 0);
        pouring(Check.inn("GD90"), 1, NONE, NONE);
    }

    private static void pouredAges() {
        GlassTax x = Check.inn("GV920V900");
        x.hour();
        x.hour();
        x.hour();
        pouring(x, 0, 0, 0);
        pouring(x, 1, 1, 1);
        pouring(x, 9, 11, 9);
        x = Check.inn("GV920");
        x.hour();
        x.hour();
        x.hour();
        pouring(x, 1, 3, 1);
    }

    private static void wake(String text, int want) {
        Check.due("wake() of " + text, Check.inn(text).wake(), want);
    }

    private static void wakes() {
        wake("G", 0);
        wake("GV990", 0);
        wake("GD00", 0);
        wake("GD93", 0);
        wake("GD90", NONE);
        wake("GV900V200V300D30D20S00S02S10S11", 1);
        wake("GV200V300V900D30S00S01", 2);
        wake("GV300V300D30S00S01", 1);
        wake("GV200V200V200D40S00S01S02", 3);
        wake("GV200V200V200D50S00S01S02", 7);
        wake("GV100V100V200V400D40S00S01S02S03", 8);
        wake("GV200D50S00", NONE);
        wake("GV110D11S00", NONE);
        wake("GV210D11S00", 1);
        wake("GV300D20D13S00S10", 1);
        GlassTax x = Check.inn("GV220D40S00");
        Check.due("wake() with too much thirst", x.wake(), NONE);
        x.drink(0, 0);
        Check.due("wake() by thirst now", x.wake(), 1);
    }

    private static void order(String text, int thirst, int order) {
        GlassTax x = Check.inn(text);
        Check.due("order(false) of " + text, x.order(false), thirst);
        Check.due("order(true) of " + text, x.order(true), order);
    }

    private static void orders() {
        order("G", 0, 0);
        order("GV990", 0, 0);
        order("GV990D50", 5, 1);
        order("GV440D22D40S00S10", 2, 12);
        order("GV440D10D31S00S10", 0, 21);
        order("GV440D10D31D00S00S10", 0, 213);
        order("GV440D00D10D31S10S20", 0, 132);
        order("GD10D20D30D40", 10, 1234);
        order("GV440D93D10D31S00S10S20", 9, 132);
        order("GV110V220D10D30S00S01S10", 2, 21);
    }

    private static void halls() {
        GlassTax x = Check.inn(InnTest.FOUR);
        int[] taxes = {13, 10, 9, 0, 0, 0, 0, 0, 0, 0};
        for (int n = 0; n < taxes.length; n++) {
            Check.due("hall(" + n + ")", x.hall(n), taxes[n]);
        }
        Check.due("hall(10)", x.hall(10), OUTSIDE);
        Check.due("hall(-1)", x.hall(-1), OUTSIDE);
        x.hour();
        Check.due("hall(0) then", x.hall(0), 10);
        Check.due("hall(1) then", x.hall(1), 9);
        x = Check.inn("GV982");
        Check.due("foam: hall(0)", x.hall(0), 10);
        Check.due("foam: hall(1)", x.hall(1), 8);
    }

    private static void judge(GlassTax x, int n, long row, int want) {
        Check.due("judge(" + n + ", " + row + ")", x.judge(n, row), want);
    }

    private static void judgedActs() {
        GlassTax x = Check.inn(InnTest.FOUR);
        judge(x, 1, 9, NONE);
        judge(x, 1, 1, NONE);
        judge(x, 1, 0, 0);
        judge(x, 1, 41, 0);
        judge(x, 2, 9009, 1);
        judge(x, 2, 2002, 1);
        judge(x, 2, 1001, NONE);
        judge(x, 1, 100, NONE);
        judge(x, 1, 101, 0);
        judge(x, 1, 110, NONE);
        judge(x, 1, 133, NONE);
        judge(x, 1, 140, 0);
        judge(x, 1, 104, 0);
        judge(x, 2, 100100, NONE);
        judge(x, 1, 201, NONE);
        judge(x, 1, 210, NONE);
        judge(x, 1, 211, 0);
        judge(x, 1, 204, 0);
        judge(x, 1, 240, 0);
        judge(x, 2, 201201, 1);
        judge(x, 2, 100201, 1);
        judge(x, 2, 9210, 1);
        judge(x, 1, 300, NONE);
        judge(x, 1, 301, 0);
        judge(x, 1, 310, 0);
        judge(x, 1, 400, 0);
        judge(x, 1, 999, 0);
        judge(Check.inn("GV111V200"), 1, 201, NONE);
        judge(Check.inn("GV111V200"), 2, 300201, 1);
    }

    private static void judgedRows() {
        GlassTax x = Check.inn(InnTest.FOUR);
        judge(x, 4, 300300300300L, NONE);
        judge(x, 4, 300300300301L, 3);
        judge(x, 4, 300300999300L, 2);
        judge(x, 4, 300300300L, 0);
        judge(x, 4, 1300300300L, NONE);
        judge(x, 3, 300009100L, NONE);
        judge(x, 4, 999999999999L, 0);
        judge(x, 4, 1000000000000L, OUTSIDE);
        judge(x, 3, 1000000000L, OUTSIDE);
        judge(x, 2, 1000000L, OUTSIDE);
        judge(x, 1, 1000L, OUTSIDE);
        judge(x, 1, -1L, OUTSIDE);
        judge(x, 4, Long.MIN_VALUE, OUTSIDE);
        judge(x, 4, Long.MAX_VALUE, OUTSIDE);
        judge(x, 0, 0L, OUTSIDE);
        judge(x, 5, 300L, OUTSIDE);
        judge(x, -1, 300L, OUTSIDE);
        judge(x, Integer.MAX_VALUE, 300L, OUTSIDE);
    }

    private static void nothingChanges() {
        GlassTax x = Check.inn(InnTest.FOUR);
        x.hour();
        x.evening(0);
        x.left(0);
        x.pouring(4, true);
        x.wake();
        x.order(true);
        x.hall(5);
        x.judge(4, 300001100201L);
        int[] contents = {4, 2, 2, 2};
        for (int g = 0; g < 4; g++) {
            Check.due("content stays", x.glass(g, 1), contents[g]);
            Check.due("age stays", x.glass(g, 3), 1);
        }
        Check.due("thirst stays", x.count(4), 24);
        Check.due("THE HOUR stays", x.count(5), 1);
        Check.due("acts stay", x.count(6), 1);
    }
}
