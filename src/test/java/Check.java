/** What the tests of the project share: it makes objects, prints every answer that is not due, and ends the run. */
final class Check {
    private static int calls = 0;
    private static int wrong = 0;

    private Check() {
    }

    static void due(String call, long got, long want) {
        calls++;
        if (got != want) {
            wrong++;
            System.out.println(call + " answered " + got + ", due is " + want);
        }
    }

    static void due(String what, boolean holds) {
        due(what, holds ? 1 : 0, 1);
    }

    static void dueRow(String name, int[] got, int... want) {
        due(name + ", how many", got.length, want.length);
        for (int i = 0; i < got.length && i < want.length; i++) {
            due(name + ", " + i, got[i], want[i]);
        }
    }

    static GlassTax withText(String text) {
        GlassTax x = new GlassTax();
        write(x, text);
        return x;
    }

    static void write(GlassTax x, String text) {
        for (int i = 0; i < text.length(); i++) {
            x.write(text.charAt(i));
        }
    }

    static GlassTax inn(String text) {
        GlassTax x = withText(text);
        due("inn() of " + text + " is not refused", x.inn() >= 0);
        return x;
    }

    /** The text anew, on an object that is there already. */
    static int innAnew(GlassTax x, String text) {
        x.wipe();
        write(x, text);
        return x.inn();
    }

    static void hours(GlassTax x, int n) {
        for (int i = 0; i < n; i++) {
            x.hour();
        }
    }

    /** Both sides of a fraction. */
    static void dueShare(GlassTax x, int drinker, int upper, int lower) {
        due("share(" + drinker + ", true)", x.share(drinker, true), upper);
        due("share(" + drinker + ", false)", x.share(drinker, false), lower);
    }

    static void dueLeak(GlassTax x, int m, int chance, int upper, int lower) {
        due("leak(" + m + ", " + chance + ", true)", x.leak(m, chance, true), upper);
        due("leak(" + m + ", " + chance + ", false)", x.leak(m, chance, false), lower);
    }

    static void end() {
        System.out.println(calls + " answers, " + wrong + " not as due");
        if (wrong != 0 || calls == 0) {
            System.exit(1);
        }
    }
}
