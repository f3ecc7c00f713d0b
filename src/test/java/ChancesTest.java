import java.math.BigInteger;

/** Promises 23 to 27: share, rests, leak, seed, nights. */
public final class ChancesTest {
    private static final int UNKNOWN = GlassTax.UNKNOWN, OUTSIDE = GlassTax.OUTSIDE, NONE = GlassTax.NONE;

    public static void main(String[] args) {
        shares();
        rests();
        restsOfUnlike();
        leaks();
        seeds();
        nights();
        nothingChanges();
        Check.end();
    }

    private static void shares() {
        GlassTax x = Check.inn("GV640D50S00");
        Check.dueShare(x, 0, -6, 1);
        Check.dueShare(x, 1, UNKNOWN, UNKNOWN);
        Check.dueShare(x, -1, UNKNOWN, UNKNOWN);
        x = Check.inn("GV640D30D20S00S10");
        Check.dueShare(x, 0, -7, 2);
        Check.dueShare(x, 1, -5, 2);
        x = Check.inn("GV990D10D20D40S00S10S20");
        Check.dueShare(x, 0, -4, 3);
        Check.dueShare(x, 1, -7, 3);
        Check.dueShare(x, 2, -16, 3);
        x = Check.inn("GV990D10D20D40D93S00S10S20S30");
        Check.dueShare(x, 0, -4, 3);
        Check.dueShare(x, 3, 0, 1);
        x.hour();
        x.hour();
        x.hour();
        Check.dueShare(x, 0, 0, 1);
    }

    private static void rests(GlassTax x, int one, int other, int many, int first) {
        Check.due("rests(" + one + ", " + other + ", 0)", x.rests(one, other, 0), many);
        Check.due("rests(" + one + ", " + other + ", 1)", x.rests(one, other, 1), first);
    }

    private static void rests() {
        GlassTax x = Check.inn("GV640V930D50D40S00S01S10S11");
        rests(x, 0, 1, 2, 1);
        rests(x, 1, 0, 2, 1);
        rests(x, 0, 0, OUTSIDE, OUTSIDE);
        rests(x, 2, 2, UNKNOWN, UNKNOWN);
        rests(x, 0, 2, UNKNOWN, UNKNOWN);
        rests(x, -1, 0, UNKNOWN, UNKNOWN);
        Check.due("rests(0, 1, 2)", x.rests(0, 1, 2), OUTSIDE);
        Check.due("rests(0, 1, -1)", x.rests(0, 1, -1), OUTSIDE);
        Check.due("rests(0, 2, 2)", x.rests(0, 2, 2), UNKNOWN);
        rests(Check.inn("GV650V930D50D40S00S01S10S11"), 0, 1, 1, 1);
        rests(Check.inn("GV640D50D40S00S10"), 0, 1, 1, 0);
        rests(Check.inn("GV640D50D40S00"), 0, 1, NONE, NONE);
        rests(Check.inn("GV640D50D40S00"), 1, 0, NONE, NONE);
        rests(Check.inn("GV640D50D40"), 0, 1, NONE, NONE);
    }

    private static void restsOfUnlike() {
        // the other has 1 at either glass, as 1 is less where both are
        GlassTax x = Check.inn("GV990V110D20D20S00S10S11");
        rests(x, 0, 1, 2, 0);
        rests(x, 1, 0, 2, 0);
        // who comes ahead takes all: the other one goes elsewhere, but not the one
        x = Check.inn("GV990V940D90D90S00S01S10S11");
        rests(x, 0, 1, 1, 1);
        rests(x, 1, 0, 1, 1);
        // a ghost has nothing anywhere, and flees the other one
        x = Check.inn("GV990V940D93D90S00S01S10S11");
        rests(x, 0, 1, 1, 10);
        rests(x, 1, 0, 1, 1);
        x = Check.inn("GV990V990V990D93D90S00S12");
        rests(x, 0, 1, 1, 2);
        rests(x, 1, 0, 1, 20);
    }

    private static void leaks() {
        GlassTax x = Check.inn("GV640");
        Check.dueLeak(x, 6, 3, 7, 10);
        Check.dueLeak(x, 5, 3, 1, 1);
        Check.dueLeak(x, 7, 3, 0, 1);
        Check.dueLeak(x, 6, 0, 1, 1);
        Check.dueLeak(x, 6, 10, 0, 1);
        Check.dueLeak(x, 6, 5, 1, 2);
        Check.dueLeak(x, 0, 5, 1, 1);
        Check.dueLeak(x, 60, 5, 0, 1);
        Check.dueLeak(x, 61, 5, OUTSIDE, OUTSIDE);
        Check.dueLeak(x, -1, 5, OUTSIDE, OUTSIDE);
        Check.dueLeak(x, 5, 11, OUTSIDE, OUTSIDE);
        Check.dueLeak(x, 5, -1, OUTSIDE, OUTSIDE);
        x = Check.inn("GV640V220");
        Check.dueLeak(x, 10, 3, 49, 100);
        Check.dueLeak(x, 9, 3, 91, 100);
        Check.dueLeak(x, 8, 3, 1, 1);
        Check.dueLeak(x, 11, 3, 0, 1);
        Check.dueLeak(x, 9, 4, 21, 25);
        Check.dueLeak(Check.inn("GV640D30S00"), 1, 2, 4, 5);
        Check.dueLeak(Check.inn("GV600"), 0, 5, 1, 1);
        Check.dueLeak(Check.inn("GV600"), 1, 5, 0, 1);
        x = Check.inn("GV110V110V110V110V110");
        Check.dueLeak(x, 15, 1, 59049, 100000);
        Check.dueLeak(x, 1, 9, 40951, 100000);
    }

    private static void seeds() {
        GlassTax x = new GlassTax();
        Check.due("seed(5)", x.seed(5), 0);
        Check.due("seed(least)", x.seed(Long.MIN_VALUE), 5);
        Check.due("seed(most)", x.seed(Long.MAX_VALUE), Long.MIN_VALUE);
        Check.due("seed(0)", x.seed(0), Long.MAX_VALUE);
        Check.due("nights(0)", x.nights(0), OUTSIDE);
        Check.due("nights(31)", x.nights(31), OUTSIDE);
        Check.due("nights(-1)", x.nights(-1), OUTSIDE);
        Check.due("seed(0): refused nights leave it", x.seed(0), 0);
        x.nights(1);
        Check.due("seed(0): one night", x.seed(0), 1442695040888963407L);
    }

    private static final BigInteger TIMES = new BigInteger("6364136223846793005");
    private static final BigInteger MORE = new BigInteger("1442695040888963407");
    private static final BigInteger AROUND = BigInteger.ONE.shiftLeft(64);

    /** An inn of one full glass of 9 at which only drinker 0 sits: it is emptied by lot 0, flat behind 3 hours. */
    private static void nights() {
        for (long seed = -20; seed <= 20; seed++) {
            GlassTax x = Check.inn("GV990D90S00");
            x.seed(seed);
            BigInteger v = BigInteger.valueOf(seed).mod(AROUND);
            int content = 9;
            int age = 0;
            int sum = 0;
            for (int i = 0; i < 30; i++) {
                v = v.multiply(TIMES).add(MORE).mod(AROUND);
                int lot = v.shiftRight(33).mod(BigInteger.valueOf(24)).intValue();
                content = lot == 0 ? 0 : content;
                age = lot >= 20 ? age + 1 : age;
                sum += content == 0 || age >= 3 ? 0 : 11;
            }
            Check.due("nights(30) by " + seed, x.nights(30), sum);
            Check.due("the seed behind " + seed, x.seed(0), v.longValue());
        }
    }

    private static void nothingChanges() {
        GlassTax x = Check.inn(InnTest.FOUR);
        x.hour();
        x.share(0, true);
        x.rests(0, 1, 0);
        x.leak(3, 4, true);
        for (int i = 0; i < 20; i++) {
            x.nights(30);
        }
        int[] contents = {4, 2, 2, 2};
        for (int g = 0; g < 4; g++) {
            Check.due("content stays", x.glass(g, 1), contents[g]);
            Check.due("age stays", x.glass(g, 3), 1);
        }
        Check.due("thirst stays", x.count(4), 24);
        Check.due("THE HOUR stays", x.count(5), 1);
        Check.due("acts stay", x.count(6), 1);
    }
}
