/** The edges of promises 23 to 25: share, rests, leak, and of FRACTIONS. */
public final class SharesEdgesTest {
    private static final int UNKNOWN = GlassTax.UNKNOWN, OUTSIDE = GlassTax.OUTSIDE, NONE = GlassTax.NONE;
    private static final int LEAST = Integer.MIN_VALUE, MOST = Integer.MAX_VALUE;
    private static final String FIVE = "V990V990V990V990V990";

    public static void main(String[] args) {
        shareOfNobody();
        shareOfNothing();
        shareOfOneAlone();
        sharesInLeastTerms();
        sharesTogether();
        restsKnowBoth();
        restsBothAreOne();
        restsOfWhat();
        oneSitsNowhere();
        theFirstAndTheLastPair();
        oneLessIfBothAreAtOne();
        theOneAheadOfTheOther();
        leakOutside();
        leakNeverAndAlways();
        emptyOnesDoNotLeak();
        leakAheadOfAnEvening();
        leakOfTheGreatestTaxes();
        leaksInLeastTerms();
        Check.end();
    }

    /** "SHARE. UNKNOWN."; "refusals of them are told likewise". */
    private static void shareOfNobody() {
        GlassTax x = Check.inn("GV990D90D90");
        for (int drinker : new int[] {-1, 2, 4, LEAST, MOST}) {
            Check.dueShare(x, drinker, UNKNOWN, UNKNOWN);
        }
        Check.dueShare(Check.inn("GV990D00D00D00D90S30"), 3, -11, 1);
    }

    /** Nothing is 0 above and 1 below. */
    private static void shareOfNothing() {
        Check.dueShare(Check.inn("GD90"), 0, 0, 1);
        Check.dueShare(Check.inn("GV990D90"), 0, 0, 1);
        Check.dueShare(Check.inn("GV990D00S00"), 0, 0, 1);
        Check.dueShare(Check.inn("GV990D93S00"), 0, 0, 1);
        Check.dueShare(Check.inn("GV900D90S00"), 0, 0, 1);
        Check.dueShare(Check.inn("GV910D91S00"), 0, 0, 1);
        Check.dueShare(Check.inn("GV923D10S00"), 0, 0, 1);
        GlassTax x = Check.inn("GV990D90D90S00S10");
        Check.hours(x, 3);
        Check.dueShare(x, 0, 0, 1);
    }

    private static void shareOfOneAlone() {
        Check.dueShare(Check.inn("GV990D90S00"), 0, -11, 1);
        Check.dueShare(Check.inn("GV990D40S00"), 0, -4, 1);
        Check.dueShare(Check.inn("GV990D50S00"), 0, -7, 1);
        Check.dueShare(Check.inn("G" + FIVE + "D92S00S01S02S03S04"), 0, -4 - 4 - 1, 1);
    }

    /** "a FRACTION (it may be below 0)"; "in least terms". */
    private static void sharesInLeastTerms() {
        GlassTax x = Check.inn("GV990D90D90S00S10");
        Check.dueShare(x, 0, -11, 2);
        x = Check.inn("GV990D90D90D90S00S10S20");
        Check.dueShare(x, 1, -11, 3);
        x = Check.inn("GV990D90D90D90D90S00S10S20S30");
        Check.dueShare(x, 2, -11, 4);
        // 2 less if it comes first, 1 less behind the rich one alone, nothing behind the others: 6 * 2 + 2 * 1 of 24
        Check.dueShare(Check.inn("GV730D20D32D91D80S00S10S20S30"), 0, -7, 12);
        Check.dueShare(Check.inn("GV440D40D40D40S00S10S20"), 0, -2, 1);
    }

    /** What all shares are together is what the evening takes off the tax. */
    private static void sharesTogether() {
        GlassTax x = Check.inn("GV970V850V333D52D31D60D42S00S01S10S12S21S20S31");
        int sum = 0;
        for (int d = 0; d < 4; d++) {
            int below = x.share(d, false);
            Check.due("below is a part of 24", below > 0 && 24 % below == 0);
            sum += x.share(d, true) * 24 / Math.max(1, below);
        }
        Check.due("all together", sum, 24 * (x.evening(0) - x.count(3)));
    }

    private static void rests(GlassTax x, int one, int other, int many, int first) {
        Check.due("rests(" + one + ", " + other + ", 0)", x.rests(one, other, 0), many);
        Check.due("rests(" + one + ", " + other + ", 1)", x.rests(one, other, 1), first);
    }

    /** "UNKNOWN: both", ahead of "OUTSIDE". */
    private static void restsKnowBoth() {
        GlassTax x = Check.inn("GV990D90D90S00S10");
        for (int no : new int[] {-1, 2, 4, LEAST, MOST}) {
            rests(x, no, 0, UNKNOWN, UNKNOWN);
            rests(x, 0, no, UNKNOWN, UNKNOWN);
            rests(x, no, no, UNKNOWN, UNKNOWN);
            Check.due("rests(0, " + no + ", 2)", x.rests(0, no, 2), UNKNOWN);
        }
        rests(Check.inn("GV990D00D00D00D90S00S30"), 3, 0, 1, 0);
    }

    /** "OUTSIDE: both are one". */
    private static void restsBothAreOne() {
        GlassTax x = Check.inn("GV990D90D90S00");
        rests(x, 0, 0, OUTSIDE, OUTSIDE);
        rests(x, 1, 1, OUTSIDE, OUTSIDE);
    }

    /** "OUTSIDE: .. what." */
    private static void restsOfWhat() {
        GlassTax x = Check.inn("GV990D90D90S00");
        for (int what : new int[] {-1, 2, LEAST, MOST}) {
            Check.due("rests(0, 1, " + what + ")", x.rests(0, 1, what), OUTSIDE);
        }
    }

    /** "NONE (also if one SITS nowhere)". */
    private static void oneSitsNowhere() {
        GlassTax x = Check.inn("GV990D90D90D90S00S10");
        rests(x, 0, 2, NONE, NONE);
        rests(x, 2, 0, NONE, NONE);
        rests(x, 0, 1, 1, 0);
        rests(Check.inn("GD90D90"), 0, 1, NONE, NONE);
        rests(Check.inn("GV990D90D90"), 1, 0, NONE, NONE);
    }

    /** "the first (10 times the one's and the other's)". */
    private static void theFirstAndTheLastPair() {
        rests(Check.inn("G" + FIVE + "D90D90S04S14"), 0, 1, 1, 44);
        rests(Check.inn("G" + FIVE + "D90D90S00S10"), 0, 1, 1, 0);
        rests(Check.inn("G" + FIVE + "D90D90S04S10"), 0, 1, 1, 40);
        rests(Check.inn("G" + FIVE + "D90D90S04S10"), 1, 0, 1, 4);
        // all pairs of two glasses of five are like good
        rests(Check.inn("G" + FIVE + "D10D10S00S01S02S03S04S10S11S12S13S14"), 0, 1, 20, 1);
    }

    /** "each has what it drinks, and 1 less, if both are at one": below 0, if it drinks nothing. */
    private static void oneLessIfBothAreAtOne() {
        rests(Check.inn("GV900D90D90S00S10"), 0, 1, 1, 0);
        rests(Check.inn("GV990V900D93D93S00S01S10S11"), 0, 1, 2, 1);
        rests(Check.inn("GV900V900D90D90S00S01S10"), 0, 1, 1, 10);
        // 3 less 1 is as much as 2 elsewhere: both can stay, either can go
        rests(Check.inn("GV990V920D30D30S00S01S10"), 0, 1, 2, 0);
        // 3 less 1 is more than 1 elsewhere
        rests(Check.inn("GV990V910D30D30S00S01S10"), 0, 1, 1, 0);
        // 3 less 1 is less than 3 elsewhere
        rests(Check.inn("GV990V930D30D30S00S01S10"), 0, 1, 1, 10);
    }

    /** "the one ahead of the other one if both are at one". */
    private static void theOneAheadOfTheOther() {
        // of 4 the one leaves 1 to the other: 0 is less than 1 elsewhere, but not for whom comes ahead
        GlassTax x = Check.inn("GV940V910D30D30S00S10S11");
        rests(x, 0, 1, 1, 1);
        rests(x, 1, 0, 1, 0);
        // a polite one leaves 1, which the other one drinks; ahead of it the other one leaves nothing
        x = Check.inn("GV940V900D91D90S00S10S11");
        rests(x, 0, 1, 2, 0);
        rests(x, 1, 0, 1, 0);
    }

    /** "OUTSIDE: m, x." */
    private static void leakOutside() {
        GlassTax x = Check.inn("GV990");
        for (int m : new int[] {-1, 61, LEAST, MOST}) {
            Check.dueLeak(x, m, 5, OUTSIDE, OUTSIDE);
        }
        for (int chance : new int[] {-1, 11, LEAST, MOST}) {
            Check.dueLeak(x, 5, chance, OUTSIDE, OUTSIDE);
        }
        Check.dueLeak(x, 0, 0, 1, 1);
        Check.dueLeak(x, 60, 10, 0, 1);
    }

    /** "by x tenths (0 to 10)". */
    private static void leakNeverAndAlways() {
        GlassTax x = Check.inn("GV990V990");
        Check.dueLeak(x, 22, 0, 1, 1);
        Check.dueLeak(x, 23, 0, 0, 1);
        Check.dueLeak(x, 20, 10, 1, 1);
        Check.dueLeak(x, 21, 10, 0, 1);
        Check.dueLeak(x, 22, 1, 81, 100);
        Check.dueLeak(x, 22, 9, 1, 100);
    }

    /** "each GLASS that is not empty". */
    private static void emptyOnesDoNotLeak() {
        GlassTax x = Check.inn("GV900V110V900");
        Check.dueLeak(x, 3, 3, 7, 10);
        Check.dueLeak(x, 1, 3, 7, 10);
        Check.dueLeak(x, 0, 3, 1, 1);
        Check.dueLeak(Check.inn("GV900"), 0, 10, 1, 1);
        Check.dueLeak(Check.inn("GV900"), 1, 10, 0, 1);
        Check.dueLeak(Check.inn("G"), 0, 5, 1, 1);
        x = Check.inn("GV110D10S00");
        x.drink(0, 0);
        Check.dueLeak(x, 1, 0, 0, 1);
    }

    /** "ahead of AN EVENING: that TAXES then are m or more". */
    private static void leakAheadOfAnEvening() {
        Check.dueLeak(Check.inn("GV640D40S00"), 1, 5, 0, 1);
        Check.dueLeak(Check.inn("GV640D30S00"), 1, 3, 7, 10);
        // the rich one leaves 2 of 4, 2 of 3
        Check.dueLeak(Check.inn("GV940D92S00"), 2, 5, 1, 1);
        // the polite one leaves 1, leak or not, but nothing of nothing
        Check.dueLeak(Check.inn("GV920D91S00"), 1, 10, 1, 1);
        Check.dueLeak(Check.inn("GV910D91S00"), 1, 10, 0, 1);
        GlassTax x = Check.inn("GV990");
        Check.hours(x, 3);
        Check.dueLeak(x, 1, 0, 0, 1);
        Check.dueLeak(x, 0, 0, 1, 1);
    }

    /** "m (0 to 60)": the greatest taxes are 55. */
    private static void leakOfTheGreatestTaxes() {
        GlassTax x = Check.inn("G" + FIVE);
        Check.dueLeak(x, 55, 0, 1, 1);
        Check.dueLeak(x, 56, 0, 0, 1);
        Check.dueLeak(x, 55, 1, 59049, 100000);
        Check.dueLeak(x, 55, 9, 1, 100000);
        Check.dueLeak(x, 51, 9, 40951, 100000);
        Check.dueLeak(x, 50, 9, 1, 1);
    }

    /** "in least terms". */
    private static void leaksInLeastTerms() {
        GlassTax x = Check.inn("G" + FIVE);
        Check.dueLeak(x, 55, 5, 1, 32);
        // none or one of five: 1 + 5 of 32
        Check.dueLeak(x, 54, 5, 3, 16);
        Check.dueLeak(x, 55, 2, 1024, 3125);
        Check.dueLeak(x, 55, 8, 1, 3125);
        x = Check.inn("GV990");
        int[][] want = {{1, 1}, {9, 10}, {4, 5}, {7, 10}, {3, 5}, {1, 2}, {2, 5}, {3, 10}, {1, 5}, {1, 10}, {0, 1}};
        for (int chance = 0; chance <= 10; chance++) {
            Check.dueLeak(x, 11, chance, want[chance][0], want[chance][1]);
        }
    }
}
