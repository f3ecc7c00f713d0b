/** The edges of promises 20 to 22: see, unsee, thirsts. */
public final class SeenEdgesTest {
    private static final int UNKNOWN = GlassTax.UNKNOWN, OUTSIDE = GlassTax.OUTSIDE, FULL = GlassTax.FULL;
    private static final int LEAST = Integer.MIN_VALUE, MOST = Integer.MAX_VALUE;
    private static final int ANY = 1023;

    /** The most that each kind drinks of 0, 1, .. 9. */
    private static final int[][] MAY = {
        {0, 1, 2, 3, 4, 5, 6, 7, 8, 9},
        {0, 0, 1, 2, 3, 4, 5, 6, 7, 8},
        {0, 0, 1, 1, 2, 2, 3, 3, 4, 4},
        {0, 0, 0, 0, 0, 0, 0, 0, 0, 0}};

    public static void main(String[] args) {
        seenOfNobody();
        wasNoughtToNine();
        isNoughtToWas();
        sixAtMost();
        seeNamesInTurn();
        unseeTellsHowMuchThereWas();
        thirstsOfNobody();
        nothingSeenAnyThirst();
        everyWasAndIs();
        eachTimeTheSame();
        allSixAreLookedAt();
        thirstOfNowCountsForNothing();
        notAnyMore();
        Check.end();
    }

    /** "UNKNOWN". */
    private static void seenOfNobody() {
        GlassTax x = Check.inn("GD00D00D00D00");
        for (int drinker : new int[] {-1, 4, 5, LEAST, MOST}) {
            Check.due("see(" + drinker + ", 0, 0)", x.see(drinker, 0, 0), UNKNOWN);
        }
        Check.due("see(3, 0, 0)", x.see(3, 0, 0), 1);
        Check.due("see(1, 0, 0) where there is one", Check.inn("GD00").see(1, 0, 0), UNKNOWN);
    }

    /** "was (0 to 9)". */
    private static void wasNoughtToNine() {
        GlassTax x = Check.inn("GD00");
        for (int was : new int[] {-1, 10, LEAST, MOST}) {
            Check.due("see(0, " + was + ", 0)", x.see(0, was, 0), OUTSIDE);
            Check.due("see(0, " + was + ", " + was + ")", x.see(0, was, was), OUTSIDE);
        }
        Check.due("see(0, 0, 0)", x.see(0, 0, 0), 1);
        Check.due("see(0, 9, 0)", x.see(0, 9, 0), 2);
    }

    /** "is (0 to was)". */
    private static void isNoughtToWas() {
        for (int was = 0; was <= 9; was++) {
            for (int is = -1; is <= 10; is++) {
                boolean fits = is >= 0 && is <= was;
                Check.due("see(0, " + was + ", " + is + ")", Check.inn("GD00").see(0, was, is), fits ? 1 : OUTSIDE);
            }
        }
        GlassTax x = Check.inn("GD00");
        Check.due("see(0, 9, least)", x.see(0, 9, LEAST), OUTSIDE);
        Check.due("see(0, 9, most)", x.see(0, 9, MOST), OUTSIDE);
        Check.due("nothing is seen", x.count(7), 0);
    }

    /** "6 such at most"; "FULL: 6." */
    private static void sixAtMost() {
        GlassTax x = Check.inn("GD00D00");
        for (int i = 1; i <= 6; i++) {
            Check.due("see " + i, x.see(i % 2, 5, 5), i);
        }
        Check.due("see 7", x.see(0, 5, 5), FULL);
        Check.due("see 7 of the other", x.see(1, 5, 5), FULL);
        Check.due("count(7)", x.count(7), 6);
        Check.due("unsee()", x.unsee(), 6);
        Check.due("see anew", x.see(0, 5, 5), 1);
    }

    private static void seeNamesInTurn() {
        GlassTax x = Check.inn("GD00");
        for (int i = 0; i < 6; i++) {
            x.see(0, 1, 1);
        }
        Check.due("see(1, 10, 11) of six", x.see(1, 10, 11), UNKNOWN);
        Check.due("see(0, 10, 0) of six", x.see(0, 10, 0), OUTSIDE);
        Check.due("see(0, 1, 2) of six", x.see(0, 1, 2), OUTSIDE);
        Check.due("see(0, 1, 1) of six", x.see(0, 1, 1), FULL);
        Check.due("see(1, 1, 2)", Check.inn("GD00").see(1, 1, 2), UNKNOWN);
    }

    /** "Nothing is SEEN: how much there was." */
    private static void unseeTellsHowMuchThereWas() {
        GlassTax x = Check.inn("GD00");
        Check.due("unsee() of nothing", x.unsee(), 0);
        x.see(0, 4, 4);
        Check.due("thirsts(0)", x.thirsts(0), 1);
        Check.due("unsee()", x.unsee(), 1);
        Check.due("unsee() twice", x.unsee(), 0);
        Check.due("count(7)", x.count(7), 0);
        Check.due("thirsts(0) behind it", x.thirsts(0), ANY);
    }

    /** "THIRSTS, as bits. UNKNOWN." */
    private static void thirstsOfNobody() {
        GlassTax x = Check.inn("GD00D00");
        for (int drinker : new int[] {-1, 2, 4, LEAST, MOST}) {
            Check.due("thirsts(" + drinker + ")", x.thirsts(drinker), UNKNOWN);
        }
        Check.due("thirsts(1)", x.thirsts(1), ANY);
        Check.due("thirsts(3) of four", Check.inn("GD00D00D00D00").thirsts(3), ANY);
    }

    /** "bits 0 to 9". */
    private static void nothingSeenAnyThirst() {
        for (int kind = 0; kind <= 3; kind++) {
            GlassTax x = Check.inn("GD5" + kind + "D50");
            x.see(1, 4, 2);
            Check.due("thirsts(0) of kind " + kind, x.thirsts(0), ANY);
        }
    }

    /** Less than it may: that thirst alone; all that it may: that thirst and each greater one; more: none. */
    private static int thirstsBy(int kind, int was, int is) {
        int drunk = was - is;
        if (drunk > MAY[kind][was]) {
            return 0;
        }
        return drunk < MAY[kind][was] ? 1 << drunk : ANY >> drunk << drunk;
    }

    /** "so that all that is SEEN of it is so, by its KIND". */
    private static void everyWasAndIs() {
        for (int kind = 0; kind <= 3; kind++) {
            for (int was = 0; was <= 9; was++) {
                for (int is = 0; is <= was; is++) {
                    GlassTax x = Check.inn("GD0" + kind);
                    x.see(0, was, is);
                    Check.due("kind " + kind + " left " + is + " of " + was, x.thirsts(0), thirstsBy(kind, was, is));
                }
            }
        }
    }

    /** "what it may have had ahead of it, each time the same": what it drank once is not less thirst the next time. */
    private static void eachTimeTheSame() {
        GlassTax x = Check.inn("GD00");
        x.see(0, 9, 5);
        x.see(0, 9, 5);
        Check.due("4 of 9 twice", x.thirsts(0), 16);
        x.see(0, 2, 0);
        Check.due("and 2 of 2", x.thirsts(0), 16);
        x.see(0, 9, 4);
        Check.due("and 5 of 9", x.thirsts(0), 0);
    }

    private static void allSixAreLookedAt() {
        for (int odd = 0; odd < 6; odd++) {
            GlassTax x = Check.inn("GD00D00");
            for (int i = 0; i < 6; i++) {
                x.see(i == odd ? 1 : 0, i == odd ? 9 : i + 1, 0);
            }
            Check.due("the one, seen at " + odd, x.thirsts(1), 512);
            int most = odd == 5 ? 5 : 6;
            Check.due("the other, not seen at " + odd, x.thirsts(0), ANY >> most << most);
        }
    }

    /** "its THIRST not known"; glasses are not told either. */
    private static void thirstOfNowCountsForNothing() {
        GlassTax x = Check.inn("GV110D10S00");
        Check.due("see(0, 9, 0)", x.see(0, 9, 0), 1);
        Check.due("thirsts(0)", x.thirsts(0), 512);
        Check.due("nothing was drunk", x.glass(0, 1) * 10 + x.drinker(0, 0), 11);
        Check.due("no act", x.count(6), 0);
        x.drink(0, 0);
        Check.due("thirsts(0) behind a drink", x.thirsts(0), 512);
        x.undo();
        Check.due("seen is not undone", x.count(7), 1);
    }

    /** "(of DRINKERS that there are not any more nothing is looked at)". */
    private static void notAnyMore() {
        GlassTax x = Check.inn("GD00D00D00D00");
        x.see(3, 4, 3);
        x.see(0, 4, 2);
        Check.innAnew(x, "GD00D00D00");
        Check.due("thirsts(3)", x.thirsts(3), UNKNOWN);
        Check.due("thirsts(0)", x.thirsts(0), 4);
        Check.due("thirsts(2)", x.thirsts(2), ANY);
        Check.due("count(7)", x.count(7), 2);
        Check.innAnew(x, "G");
        Check.due("thirsts(0) of nobody", x.thirsts(0), UNKNOWN);
        Check.due("see(0, 1, 1) of nobody", x.see(0, 1, 1), UNKNOWN);
        Check.due("they still count", x.unsee(), 2);
    }
}
