import java.lang.management.ManagementFactory;
import java.util.Random;

/** No call makes an object, none throws, whatever it is asked and however often; a new object is small. */
public final class RoomTest {
    private static final int[] NUMBERS = {Integer.MIN_VALUE, -10, -9, -2, -1, 0, 1, 2, 3, 4, 5, 6, 7, 8, 9, 10, 11,
        30, 31, 60, 61, 71, 255, 256, 1000, Integer.MAX_VALUE};
    private static final String LETTERS = "GVDS0123456789";

    private static final com.sun.management.ThreadMXBean BEAN =
        (com.sun.management.ThreadMXBean) ManagementFactory.getThreadMXBean();

    private static Random dice;
    private static long sink;

    public static void main(String[] args) {
        wildCalls(3);
        callsMakeNothing();
        newObjectsAreSmall();
        Check.end();
    }

    private static int any() {
        return NUMBERS[dice.nextInt(NUMBERS.length)];
    }

    private static long made() {
        return BEAN.getThreadAllocatedBytes(Thread.currentThread().getId());
    }

    private static void wildCalls(int seed) {
        dice = new Random(seed);
        for (int i = 0; i < 60; i++) {
            GlassTax x = Check.inn(InnTest.FOUR);
            for (int call = 0; call < 5000; call++) {
                sink += wild(x, dice.nextInt(30));
            }
        }
        Check.due("wild calls all answered", true);
    }

    private static void callsMakeNothing() {
        dice = new Random(5);
        GlassTax x = Check.inn(InnTest.FOUR);
        made();
        long ahead = made();
        for (int call = 0; call < 20000; call++) {
            sink += wild(x, dice.nextInt(30));
        }
        long bytes = made() - ahead;
        Check.due("20000 calls made " + bytes + " bytes", bytes < 2000);
    }

    private static void newObjectsAreSmall() {
        GlassTax[] all = new GlassTax[1000];
        long ahead = made();
        for (int i = 0; i < all.length; i++) {
            all[i] = new GlassTax();
        }
        long bytes = (made() - ahead) / all.length;
        Check.due("a new object takes " + bytes + " bytes", bytes < 6000);
        sink += all[0].count(0);
    }

    private static long wild(GlassTax x, int call) {
        int a = any();
        int b = any();
        int c = any();
        boolean side = dice.nextBoolean();
        switch (call) {
            case 0: return x.write(dice.nextInt(5) == 0 ? a : LETTERS.charAt(dice.nextInt(14)));
            case 1: return dice.nextInt(9) == 0 ? x.wipe() : x.fault();
            case 2: return x.inn();
            case 3: return x.glass(a, b);
            case 4: return x.drinker(a, b);
            case 5: return x.pour(a, b);
            case 6: return x.drink(a, b);
            case 7: return x.tip(a, b);
            case 8: return x.hour();
            case 9: return x.undo();
            case 10: return x.left(a);
            case 11: return x.evening(a);
            case 12: return x.pouring(a, side);
            case 13: return x.wake();
            case 14: return x.order(side);
            case 15: return x.hall(a);
            case 16: return x.judge(a, dice.nextLong() >> dice.nextInt(64));
            case 17: return x.see(a, b, c);
            case 18: return x.unsee();
            case 19: return x.thirsts(a);
            case 20: return x.share(a, side);
            case 21: return x.rests(a, b, c);
            case 22: return x.leak(a, b, side);
            case 23: return x.seed(a);
            case 24: return x.nights(a);
            case 25: return x.keep(a);
            case 26: return x.again(a);
            default: return x.count(a);
        }
    }
}
