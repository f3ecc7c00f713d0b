import java.util.ArrayList;
import java.util.List;

/**
 * "What is refused changes nothing", and "in what follows nothing is changed": of two objects made alike one is asked
 * besides, and then both must tell the same of all that can be looked at, undone and gone on from.
 */
public final class RefusalsTest {
    private static final int UNKNOWN = GlassTax.UNKNOWN, OUTSIDE = GlassTax.OUTSIDE, STATE = GlassTax.STATE;
    private static final int FULL = GlassTax.FULL, NONE = GlassTax.NONE;

    private interface Maker {
        GlassTax make();
    }

    private interface Call {
        long on(GlassTax x);
    }

    public static void main(String[] args) {
        refusedByNew();
        refusedUnknown();
        refusedOutside();
        refusedOutsideOfFractions();
        refusedByState();
        refusedFull();
        askedEvenings();
        askedSeenAndShares();
        askedInn();
        nightsChangeTheSeedAlone();
        Check.end();
    }

    /** An inn in the midst of things: 16 acts, two slots kept, some seen, a seed; glass 1 is full, glass 2 empty. */
    private static GlassTax busy() {
        GlassTax x = Check.inn("GV940V330V200D70D32S00S10S11");
        x.seed(1234567890123L);
        x.see(0, 5, 2);
        x.see(1, 8, 4);
        x.hour();
        x.keep(0);
        x.drink(1, 0);
        x.pour(0, 2);
        x.hour();
        x.keep(1);
        for (int i = 0; i < 6; i++) {
            x.tip(0, 2);
            x.tip(2, 0);
        }
        x.write('V');
        return x;
    }

    /** The same with a full text and six seen. */
    private static GlassTax full() {
        GlassTax x = busy();
        Check.write(x, "X".repeat(60 - x.count(0)));
        for (int i = 0; i < 4; i++) {
            x.see(1, 3, 3);
        }
        return x;
    }

    private static void look(GlassTax x, List<Long> told) {
        for (int what = 0; what <= 7; what++) {
            told.add((long) x.count(what));
        }
        for (int g = 0; g < 3; g++) {
            told.add((long) x.glass(g, 1));
            told.add((long) x.glass(g, 3));
        }
        told.add((long) x.drinker(0, 0));
        told.add((long) x.drinker(1, 0));
    }

    /** Some 150 calls: all that can be told, then undone to the end, gone on from, wiped. */
    private static List<Long> tell(GlassTax x) {
        List<Long> told = new ArrayList<>();
        look(x, told);
        told.add((long) x.fault());
        for (int i = 0; i < 3; i++) {
            told.add((long) x.glass(i, 0) * 10000 + x.glass(i, 2) * 100 + x.glass(i, 5));
            told.add((long) x.drinker(i, 1) * 100 + x.drinker(i, 2));
            told.add((long) x.thirsts(i));
        }
        told.add((long) x.evening(0));
        told.add((long) x.pouring(1, true));
        for (int i = 0; i < 15; i++) {
            told.add((long) x.undo());
            told.add(x.glass(0, 1) * 1000L + x.glass(0, 3) * 100 + x.drinker(1, 0) * 10 + x.count(5));
        }
        for (int slot = 1; slot >= 0; slot--) {
            told.add((long) x.again(slot));
            look(x, told);
        }
        told.add((long) x.nights(3));
        told.add(x.seed(0));
        told.add((long) x.unsee());
        told.add((long) x.wipe());
        return told;
    }

    private static void same(String call, GlassTax asked, GlassTax other) {
        List<Long> one = tell(asked);
        List<Long> two = tell(other);
        Check.due(call + ": " + one + " and " + two + " are the same", one.equals(two));
    }

    private static void refused(String name, Maker maker, Call call, int want) {
        GlassTax x = maker.make();
        Check.due(name, call.on(x), want);
        same(name, x, maker.make());
    }

    private static void asked(String name, Call call) {
        GlassTax x = busy();
        Check.due(name + " is not refused", call.on(x) != OUTSIDE && x.count(6) == 14);
        same(name, x, busy());
    }

    private static void refusedByNew() {
        refused("new: inn()", GlassTax::new, GlassTax::inn, STATE);
        refused("new: undo()", GlassTax::new, GlassTax::undo, STATE);
        refused("new: again(0)", GlassTax::new, x -> x.again(0), STATE);
        refused("new: pour(0, 1)", GlassTax::new, x -> x.pour(0, 1), UNKNOWN);
        refused("new: drink(0, 0)", GlassTax::new, x -> x.drink(0, 0), UNKNOWN);
        refused("new: tip(0, 1)", GlassTax::new, x -> x.tip(0, 1), UNKNOWN);
        refused("new: see(0, 1, 1)", GlassTax::new, x -> x.see(0, 1, 1), UNKNOWN);
    }

    private static void refusedUnknown() {
        for (int no : new int[] {-1, 3, 5, Integer.MIN_VALUE, Integer.MAX_VALUE}) {
            String name = "of " + no + ": ";
            refused(name + "glass", RefusalsTest::busy, x -> x.glass(no, 1), UNKNOWN);
            refused(name + "drinker", RefusalsTest::busy, x -> x.drinker(no, 1), UNKNOWN);
            refused(name + "pour", RefusalsTest::busy, x -> x.pour(no, 1), UNKNOWN);
            refused(name + "drink by", RefusalsTest::busy, x -> x.drink(no, 0), UNKNOWN);
            refused(name + "drink of", RefusalsTest::busy, x -> x.drink(0, no), UNKNOWN);
            refused(name + "tip", RefusalsTest::busy, x -> x.tip(no, 0), UNKNOWN);
            refused(name + "tip into", RefusalsTest::busy, x -> x.tip(0, no), UNKNOWN);
            refused(name + "left", RefusalsTest::busy, x -> x.left(no), UNKNOWN);
            refused(name + "see", RefusalsTest::busy, x -> x.see(no, 1, 1), UNKNOWN);
            refused(name + "thirsts", RefusalsTest::busy, x -> x.thirsts(no), UNKNOWN);
            refused(name + "share", RefusalsTest::busy, x -> x.share(no, true), UNKNOWN);
            refused(name + "rests", RefusalsTest::busy, x -> x.rests(0, no, 0), UNKNOWN);
            refused(name + "keep", RefusalsTest::busy, x -> x.keep(no), UNKNOWN);
            refused(name + "again", RefusalsTest::busy, x -> x.again(no), UNKNOWN);
        }
    }

    private static void refusedOutside() {
        for (int no : new int[] {-1, 256, Integer.MIN_VALUE, Integer.MAX_VALUE}) {
            String name = "by " + no + ": ";
            refused(name + "write", RefusalsTest::busy, x -> x.write(no), OUTSIDE);
            refused(name + "glass", RefusalsTest::busy, x -> x.glass(0, no), OUTSIDE);
            refused(name + "drinker", RefusalsTest::busy, x -> x.drinker(0, no), OUTSIDE);
            refused(name + "pour", RefusalsTest::busy, x -> x.pour(0, no), OUTSIDE);
            refused(name + "evening", RefusalsTest::busy, x -> x.evening(no), OUTSIDE);
            refused(name + "pouring", RefusalsTest::busy, x -> x.pouring(no, true), OUTSIDE);
            refused(name + "hall", RefusalsTest::busy, x -> x.hall(no), OUTSIDE);
            refused(name + "judge", RefusalsTest::busy, x -> x.judge(no, 300), OUTSIDE);
            refused(name + "see, was", RefusalsTest::busy, x -> x.see(0, no, 0), OUTSIDE);
            refused(name + "see, is", RefusalsTest::busy, x -> x.see(0, 9, no), OUTSIDE);
            refused(name + "rests", RefusalsTest::busy, x -> x.rests(0, 1, no), OUTSIDE);
            refused(name + "nights", RefusalsTest::busy, x -> x.nights(no), OUTSIDE);
            refused(name + "count", RefusalsTest::busy, x -> x.count(no), OUTSIDE);
        }
        refused("tip(0, 0)", RefusalsTest::busy, x -> x.tip(0, 0), OUTSIDE);
        refused("rests(1, 1, 0)", RefusalsTest::busy, x -> x.rests(1, 1, 0), OUTSIDE);
        refused("judge(1, -1)", RefusalsTest::busy, x -> x.judge(1, -1), OUTSIDE);
        refused("judge(1, 1000)", RefusalsTest::busy, x -> x.judge(1, 1000), OUTSIDE);
        refused("pour(0, 0)", RefusalsTest::busy, x -> x.pour(0, 0), OUTSIDE);
        refused("nights(0)", RefusalsTest::busy, x -> x.nights(0), OUTSIDE);
    }

    private static void refusedOutsideOfFractions() {
        for (boolean upper : new boolean[] {false, true}) {
            refused("leak(-1, 5)", RefusalsTest::busy, x -> x.leak(-1, 5, upper), OUTSIDE);
            refused("leak(61, 5)", RefusalsTest::busy, x -> x.leak(61, 5, upper), OUTSIDE);
            refused("leak(5, -1)", RefusalsTest::busy, x -> x.leak(5, -1, upper), OUTSIDE);
            refused("leak(5, 11)", RefusalsTest::busy, x -> x.leak(5, 11, upper), OUTSIDE);
            refused("share(2)", RefusalsTest::busy, x -> x.share(2, upper), UNKNOWN);
        }
    }

    private static void refusedByState() {
        refused("pour(1, 1) into a full one", RefusalsTest::busy, x -> x.pour(1, 1), STATE);
        refused("drink(0, 1) where it does not sit", RefusalsTest::busy, x -> x.drink(0, 1), STATE);
        refused("tip(0, 1) into a full one", RefusalsTest::busy, x -> x.tip(0, 1), STATE);
        refused("tip(2, 0) of an empty one", RefusalsTest::busy, x -> x.tip(2, 0), STATE);
        refused("tip(2, 1) of an empty one into a full one", RefusalsTest::busy, x -> x.tip(2, 1), STATE);
        refused("inn() of a fault", RefusalsTest::busy, GlassTax::inn, STATE);
        Maker fresh = () -> Check.inn("GV940V330V200D70D32S00S10S11");
        refused("undo() of none", fresh, GlassTax::undo, STATE);
        refused("again(0) of none", fresh, x -> x.again(0), STATE);
        refused("again(1) of none", fresh, x -> x.again(1), STATE);
    }

    private static void refusedFull() {
        refused("write('X') behind 60", RefusalsTest::full, x -> x.write('X'), FULL);
        refused("write(0) behind 60", RefusalsTest::full, x -> x.write(0), FULL);
        refused("write(256) behind 60", RefusalsTest::full, x -> x.write(256), OUTSIDE);
        refused("see(0, 1, 0) behind 6", RefusalsTest::full, x -> x.see(0, 1, 0), FULL);
        refused("see(0, 1, 2) behind 6", RefusalsTest::full, x -> x.see(0, 1, 2), OUTSIDE);
        refused("see(9, 1, 2) behind 6", RefusalsTest::full, x -> x.see(9, 1, 2), UNKNOWN);
    }

    private static void askedEvenings() {
        for (int g = 0; g < 3; g++) {
            int glass = g;
            asked("left(" + g + ")", x -> x.left(glass));
        }
        asked("evening(0)", x -> x.evening(0));
        asked("evening(1)", x -> x.evening(1));
        for (int n = 0; n <= 9; n++) {
            int m = n;
            asked("pouring(" + n + ", false)", x -> x.pouring(m, false));
            asked("pouring(" + n + ", true)", x -> x.pouring(m, true));
            asked("hall(" + n + ")", x -> x.hall(m));
        }
        asked("wake()", GlassTax::wake);
        asked("order(false)", x -> x.order(false));
        asked("order(true)", x -> x.order(true));
        asked("judge(4, 100300001201)", x -> x.judge(4, 100300001201L));
        asked("judge(4, 100300001999)", x -> x.judge(4, 100300001999L));
        asked("judge(1, 0)", x -> x.judge(1, 0));
    }

    private static void askedSeenAndShares() {
        for (boolean upper : new boolean[] {false, true}) {
            asked("share(0)", x -> x.share(0, upper));
            asked("share(1)", x -> x.share(1, upper));
            asked("leak(3, 4)", x -> x.leak(3, 4, upper));
            asked("leak(0, 10)", x -> x.leak(0, 10, upper));
        }
        asked("thirsts(0)", x -> x.thirsts(0));
        asked("rests(0, 1, 0)", x -> x.rests(0, 1, 0));
        asked("rests(1, 0, 1)", x -> x.rests(1, 0, 1));
    }

    private static void askedInn() {
        asked("fault()", GlassTax::fault);
        for (int what = 0; what <= 7; what++) {
            int w = what;
            asked("count(" + what + ")", x -> x.count(w));
        }
        for (int what = 0; what <= 5; what++) {
            int w = what;
            asked("glass(2, " + what + ")", x -> x.glass(2, w));
        }
        for (int what = 0; what <= 3; what++) {
            int w = what;
            asked("drinker(1, " + what + ")", x -> x.drinker(1, w));
        }
        Check.due("fault() of the busy one", busy().fault(), busy().count(0));
        Check.due("rests() of the busy one", busy().rests(0, 1, 1) != NONE);
    }

    /** "(Nothing changes but THE SEED.)" */
    private static void nightsChangeTheSeedAlone() {
        for (int m = 1; m <= 30; m++) {
            GlassTax x = busy();
            x.nights(m);
            x.seed(1234567890123L);
            same("nights(" + m + ")", x, busy());
        }
    }
}
