import java.math.BigInteger;

/** The edges of promises 26 and 27: seed, nights. */
public final class NightsEdgesTest {
    private static final int OUTSIDE = GlassTax.OUTSIDE;
    private static final BigInteger TIMES = new BigInteger("6364136223846793005");
    private static final BigInteger MORE = new BigInteger("1442695040888963407");
    private static final BigInteger AROUND = BigInteger.ONE.shiftLeft(64);

    public static void main(String[] args) {
        seedIsAnyLong();
        oneToThirtyNights();
        refusedNightsLeaveTheSeed();
        theSeedGoesOn();
        theSeedWraps();
        theUpper31BitsAlone();
        aSeatForEachLot();
        nobodyThere();
        lotsOfHours();
        eachTimeTogether();
        onlyTheSeedChanges();
        Check.end();
    }

    /** The seed by which the first night is this one. */
    private static long seedFor(long night) {
        BigInteger v = BigInteger.valueOf(night).subtract(MORE).multiply(TIMES.modInverse(AROUND));
        return v.mod(AROUND).longValue();
    }

    private static long seedForLot(long upper) {
        return seedFor(upper << 33);
    }

    private static long behind(long seed, int nights) {
        BigInteger v = BigInteger.valueOf(seed);
        for (int i = 0; i < nights; i++) {
            v = v.multiply(TIMES).add(MORE).mod(AROUND);
        }
        return v.longValue();
    }

    /** "THE SEED, a long; 0 at first"; "THE SEED is v: what it was." */
    private static void seedIsAnyLong() {
        GlassTax x = new GlassTax();
        long was = 0;
        for (long v : new long[] {1, -1, Long.MAX_VALUE, Long.MIN_VALUE, 1L << 32, -9, 0}) {
            Check.due("seed(" + v + ")", x.seed(v), was);
            was = v;
        }
        Check.due("seed(0)", x.seed(0), 0);
    }

    /** "m times (1 to 30)"; "OUTSIDE: m." */
    private static void oneToThirtyNights() {
        GlassTax x = Check.inn("GV990");
        for (int m : new int[] {0, -1, 31, Integer.MIN_VALUE, Integer.MAX_VALUE}) {
            Check.due("nights(" + m + ")", x.nights(m), OUTSIDE);
        }
        x.seed(seedForLot(0));
        Check.due("nights(1)", x.nights(1), 11);
        x.seed(7);
        Check.due("nights(30) is not refused", x.nights(30) >= 0);
        Check.due("thirty times", x.seed(0), behind(7, 30));
    }

    /** "What is refused changes nothing." */
    private static void refusedNightsLeaveTheSeed() {
        GlassTax x = Check.inn("GV990");
        x.seed(77);
        x.nights(0);
        x.nights(31);
        Check.due("THE SEED", x.seed(0), 77);
    }

    /** "x .. becomes": the next call begins where the last one ended. */
    private static void theSeedGoesOn() {
        GlassTax x = Check.inn("GV990");
        for (int i = 1; i <= 5; i++) {
            x.nights(i);
        }
        Check.due("THE SEED behind 15", x.seed(3), behind(0, 15));
        x.inn();
        x.nights(1);
        Check.due("THE SEED behind an inn", x.seed(0), behind(3, 1));
    }

    /** "(64 bits, wrapping)". */
    private static void theSeedWraps() {
        for (long v : new long[] {0, 1, 2, -1, Long.MAX_VALUE, Long.MIN_VALUE, 1L << 62, 123456789123456789L}) {
            GlassTax x = new GlassTax();
            x.seed(v);
            x.nights(1);
            Check.due("the seed behind " + v, x.seed(0), behind(v, 1));
        }
    }

    /** "its upper 31 bits by 24, what is left": the upper bit is no sign, the lower 33 count for nothing. */
    private static void theUpper31BitsAlone() {
        // 2147483647 by 24 leaves 7: drinker 1, glass 2
        GlassTax x = Check.inn("GV990V990V990D90D90S12");
        x.seed(seedForLot(2147483647L));
        Check.due("all upper bits", x.nights(1), 22);
        x.seed(seedFor(-1L));
        Check.due("all bits", x.nights(1), 22);
        x.seed(seedFor((7L << 33) + (1L << 33) - 1));
        Check.due("7 and all lower bits", x.nights(1), 22);
        x.seed(seedForLot(7));
        Check.due("7", x.nights(1), 22);
        x.seed(seedForLot(31));
        Check.due("31", x.nights(1), 22);
        // 2 to the 30th by 24 leaves 16
        x.seed(seedForLot(1L << 30));
        Check.due("the uppermost bit", x.nights(1), 33);
    }

    /** "0 to 19: that by 5 (down) is a DRINKER, what is left by 5 a GLASS: it drinks of it, if it SITS there". */
    private static void aSeatForEachLot() {
        for (int seat = 0; seat < 20; seat++) {
            String text = "GV110V110V110V110V110D90D90D90D90S" + seat / 5 + seat % 5;
            for (int lot = 0; lot < 24; lot++) {
                GlassTax x = Check.inn(text);
                x.seed(seedForLot(lot));
                Check.due("lot " + lot + " for " + text, x.nights(1), lot == seat ? 12 : 15);
            }
        }
    }

    /** Lots of drinkers and glasses that there are not: nobody drinks. */
    private static void nobodyThere() {
        for (int lot = 0; lot < 20; lot++) {
            GlassTax x = Check.inn("GV990D90S00");
            x.seed(seedForLot(lot));
            Check.due("lot " + lot + " with one of each", x.nights(1), lot == 0 ? 0 : 11);
            GlassTax y = Check.inn("GV990");
            y.seed(seedForLot(lot));
            Check.due("lot " + lot + " with nobody", y.nights(1), 11);
        }
    }

    /** "20 to 23 AN HOUR". */
    private static void lotsOfHours() {
        for (int lot = 15; lot < 24; lot++) {
            GlassTax x = Check.inn("GV991");
            x.seed(seedForLot(lot));
            Check.due("lot " + lot, x.nights(1), lot < 20 ? 11 : 10);
            x.hour();
            x.hour();
            x.seed(seedForLot(lot));
            Check.due("lot " + lot + " at age 2", x.nights(1), lot < 20 ? 9 : 0);
        }
    }

    /** "TAXES then, each time, together." */
    private static void eachTimeTogether() {
        // nobody SITS: 3 each time until the third hour
        for (long seed = 0; seed < 10; seed++) {
            GlassTax x = Check.inn("GV110D90");
            x.seed(seed);
            int hours = 0;
            int sum = 0;
            for (int i = 1; i <= 30; i++) {
                long lot = (behind(seed, i) >>> 33) % 24;
                hours += lot >= 20 ? 1 : 0;
                sum += hours < 3 ? 3 : 0;
            }
            Check.due("nights(30) by " + seed, x.nights(30), sum);
        }
    }

    /** "(Nothing changes but THE SEED.)" */
    private static void onlyTheSeedChanges() {
        GlassTax x = Check.inn("GV990D90S00");
        x.hour();
        for (int lot : new int[] {0, 20, 0, 23}) {
            x.seed(seedForLot(lot));
            x.nights(30);
        }
        Check.due("in it", x.glass(0, 1), 9);
        Check.due("age", x.glass(0, 3), 1);
        Check.due("thirst", x.drinker(0, 0), 9);
        Check.due("THE HOUR", x.count(5), 1);
        Check.due("acts", x.count(6), 1);
        Check.due("undo() the hour", x.undo(), 0);
    }
}
