/** Promises 1 to 5: a new object, write, wipe, fault, inn. */
public final class TextTest {
    public static void main(String[] args) {
        newObject();
        writing();
        wiping();
        faultsInVessels();
        faultsInDrinkers();
        faultsInSeats();
        faultsAtTheEnd();
        making();
        readingIsNotMaking();
        makingAnew();
        Check.end();
    }

    private static void newObject() {
        GlassTax x = new GlassTax();
        for (int what = 0; what <= 7; what++) {
            Check.due("new: count(" + what + ")", x.count(what), 0);
        }
        Check.due("new: glass(0, 0)", x.glass(0, 0), GlassTax.UNKNOWN);
        Check.due("new: drinker(0, 0)", x.drinker(0, 0), GlassTax.UNKNOWN);
        Check.due("new: undo()", x.undo(), GlassTax.STATE);
        Check.due("new: again(0)", x.again(0), GlassTax.STATE);
        Check.due("new: again(1)", x.again(1), GlassTax.STATE);
        Check.due("new: unsee()", x.unsee(), 0);
        Check.due("new: seed(7)", x.seed(7), 0);
        Check.due("new: wipe()", x.wipe(), 0);
        Check.due("new: fault()", x.fault(), 0);
        Check.due("new: inn()", x.inn(), GlassTax.STATE);
    }

    private static void writing() {
        GlassTax x = new GlassTax();
        Check.due("write(-1)", x.write(-1), GlassTax.OUTSIDE);
        Check.due("write(256)", x.write(256), GlassTax.OUTSIDE);
        Check.due("write(least)", x.write(Integer.MIN_VALUE), GlassTax.OUTSIDE);
        Check.due("count(0)", x.count(0), 0);
        Check.due("write(0)", x.write(0), 1);
        Check.due("write(255)", x.write(255), 2);
        for (int i = 3; i <= 60; i++) {
            Check.due("write, letter " + i, x.write('V'), i);
        }
        Check.due("write the 61st", x.write('V'), GlassTax.FULL);
        Check.due("write(256) behind 60", x.write(256), GlassTax.OUTSIDE);
        Check.due("count(0) of 60", x.count(0), 60);
    }

    private static void wiping() {
        GlassTax x = Check.inn("GV531D42S00");
        Check.due("wipe()", x.wipe(), 11);
        Check.due("wipe() again", x.wipe(), 0);
        Check.due("count(0)", x.count(0), 0);
        Check.due("the inn stays", x.count(1) * 10 + x.count(2), 11);
    }

    private static void fault(String text, int want) {
        GlassTax x = Check.withText(text);
        Check.due("fault() of " + text, x.fault(), want);
        Check.due("fault() of " + text + " again", x.fault(), want);
        if (want != GlassTax.NONE) {
            Check.due("inn() of " + text, x.inn(), GlassTax.STATE);
        }
    }

    private static void faultsInVessels() {
        fault("", 0);
        fault("g", 0);
        fault("V110", 0);
        fault("G", GlassTax.NONE);
        fault("GG", 1);
        fault("G0", 1);
        fault("GV000", 2);
        fault("GV1", 3);
        fault("GVV", 2);
        fault("GV100", GlassTax.NONE);
        fault("GV110", GlassTax.NONE);
        fault("GV120", 3);
        fault("GV990", GlassTax.NONE);
        fault("GV893", 3);
        fault("GV893D", 3);
        fault("GV993", GlassTax.NONE);
        fault("GV994", 4);
        fault("GV99/", 4);
        fault("GV99:", 4);
        fault("GV:90", 2);
        fault("GV90" + (char) 255, 4);
        fault("GV110V110V110V110V110", GlassTax.NONE);
        fault("GV110V110V110V110V110V", 21);
        fault("GV110V110V110V110V110D", 22);
    }

    private static void faultsInDrinkers() {
        fault("GD00", GlassTax.NONE);
        fault("GD93", GlassTax.NONE);
        fault("GD94", 3);
        fault("GDx", 2);
        fault("GD0/", 3);
        fault("GD00D00D00D00", GlassTax.NONE);
        fault("GD00D00D00D00D", 13);
        fault("GD00D00D00D00V", 14);
    }

    private static void faultsInSeats() {
        fault("GS", 1);
        fault("GV110S", 5);
        fault("GD00S", 4);
        fault("GV110D00S", 9);
        fault("GD00V110S", 9);
        fault("GV110D00S00", GlassTax.NONE);
        fault("GV110D00S1", 9);
        fault("GV110D00S01", 10);
        fault("GV110D00S0x", 10);
        fault("GV110D00S00S", 11);
        fault("GV110V110D00S00S00", 17);
        fault("GV110V110D00S00S01", GlassTax.NONE);
        fault("GV110V110D00S00S01S", 18);
        fault("GV110D00D00S00S0", 15);
        fault("GV110D00D00S00S10", GlassTax.NONE);
        fault("GV110D00S00V110S01", GlassTax.NONE);
        fault("GV110D00S00V110S00", 17);
        fault("GV110D00S00D00S10", GlassTax.NONE);
        fault("GV110D00S00D00S0", 15);
    }

    private static void faultsAtTheEnd() {
        String seats = "S00S01S02S03S04S10S11S12S13";
        String sixty = "GV110V110V110V110V110D00D00" + seats;
        Check.due("length", sixty.length(), 54);
        fault(sixty, GlassTax.NONE);
        fault(sixty + "S14", GlassTax.NONE);
        fault(sixty + "S14S", 57);
        fault(sixty + "D00S", 58);
        fault(sixty + "D00S20", GlassTax.NONE);
        // the text is full in the middle of a part: its length is set aside, it is only not at its end
        fault(sixty + "S14D00", GlassTax.NONE);
        fault("GV110V110V110V110V110D00D00D00D00S00S01S02S03S04S10S11S12S13", GlassTax.NONE);
        fault("GV110V110V110V110D00D00D00D00S00S01S02S03S10S11S12S13S20S21S2", 60);
    }

    private static void making() {
        GlassTax x = Check.withText("G");
        Check.due("inn() of G", x.inn(), 0);
        Check.due("text stays", x.count(0), 1);
        Check.write(x, "V530");
        Check.due("inn() of one glass", x.inn(), 10);
        Check.write(x, "D42");
        Check.due("inn() of one glass, one drinker", x.inn(), 11);
        Check.write(x, "V110V110V110V110D00D00D00");
        Check.due("inn() of all", x.inn(), 54);
        Check.write(x, "D");
        Check.due("inn() with a fault", x.inn(), GlassTax.STATE);
        Check.due("a refused inn leaves glasses", x.count(1), 5);
        Check.due("a refused inn leaves drinkers", x.count(2), 4);
    }

    private static void readingIsNotMaking() {
        GlassTax x = Check.inn("GV310D10");
        x.wipe();
        Check.write(x, "GV990V990D91D90S00S11");
        Check.due("fault() of another", x.fault(), GlassTax.NONE);
        Check.due("glasses stay", x.count(1), 1);
        Check.due("thirst stays", x.count(4), 1);
        Check.due("taxes stay", x.count(3), 1);
        Check.due("inn() of a lesser one", Check.innAnew(x, "GV310D10"), 11);
        Check.due("thirst", x.count(4), 1);
        Check.due("taxes", x.count(3), 1);
        Check.due("taxes behind an evening", x.evening(0), 1);
    }

    private static void makingAnew() {
        GlassTax x = Check.inn("GV550V990D41S00");
        x.see(0, 4, 1);
        x.seed(99);
        x.hour();
        x.keep(1);
        x.drink(0, 0);
        x.wipe();
        Check.due("inn() of nothing", x.inn(), GlassTax.STATE);
        Check.due("refused: acts stay", x.count(6), 2);
        Check.due("refused: the hour stays", x.count(5), 1);
        Check.due("inn() of another", Check.innAnew(x, "GV310"), 10);
        Check.due("acts are gone", x.count(6), 0);
        Check.due("undo() behind inn()", x.undo(), GlassTax.STATE);
        Check.due("kept is gone", x.again(1), GlassTax.STATE);
        Check.due("the hour is 0", x.count(5), 0);
        Check.due("age is 0", x.glass(0, 3), 0);
        Check.due("content is as told", x.glass(0, 1), 1);
        Check.due("drinkers are gone", x.drinker(0, 0), GlassTax.UNKNOWN);
        Check.due("second glass is gone", x.glass(1, 0), GlassTax.UNKNOWN);
        Check.due("thirst is gone", x.count(4), 0);
        Check.due("tax of what is gone", x.count(3), 1);
        Check.due("seen stays", x.count(7), 1);
        Check.due("the seed stays", x.seed(0), 99);
        Check.due("the old seats are gone", Check.innAnew(x, "GV310D10"), 11);
        Check.due("nobody sits", x.glass(0, 5), 0);
    }
}
