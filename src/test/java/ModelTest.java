import java.util.Random;

/** Runs of random calls, up to 512 an object: the class must answer as the plain Model does, call by call. */
public final class ModelTest {
    private static final int RUNS = 300;
    private static final int CALLS = 512;

    private static Random dice;
    private static GlassTax x;
    private static Model model;

    public static void main(String[] args) {
        for (int run = 0; run < RUNS; run++) {
            dice = new Random(run);
            x = new GlassTax();
            model = new Model();
            int calls = 0;
            while (calls < CALLS) {
                calls += run % 3 != 2 && dice.nextInt(60) == 0 || calls == 0 ? writeInn(run, CALLS - calls) : oneCall(run);
            }
        }
        Check.end();
    }

    private static int writeInn(int run, int most) {
        String whole = dice.nextInt(4) == 0 ? mixedInn() : randomInn();
        String text = dice.nextInt(8) == 0 ? spoilt(whole) : whole;
        if (text.length() + 3 > most) {
            return oneCall(run);
        }
        compare(run, "wipe()", x.wipe(), model.wipe());
        for (int i = 0; i < text.length(); i++) {
            compare(run, "write", x.write(text.charAt(i)), model.write(text.charAt(i)));
        }
        compare(run, "fault() of " + text, x.fault(), model.fault());
        compare(run, "inn() of " + text, x.inn(), model.inn());
        return text.length() + 3;
    }

    private static String randomInn() {
        StringBuilder text = new StringBuilder("G");
        int glasses = 1 + dice.nextInt(5);
        int drinkers = 1 + dice.nextInt(4);
        for (int g = 0; g < glasses; g++) {
            int measure = 1 + dice.nextInt(9);
            text.append('V').append(measure).append(dice.nextInt(measure + 1)).append(dice.nextInt(4));
        }
        for (int d = 0; d < drinkers; d++) {
            text.append('D').append(dice.nextInt(10)).append(dice.nextInt(4));
        }
        for (int d = 0; d < drinkers; d++) {
            for (int g = 0; g < glasses; g++) {
                if (dice.nextInt(5) < 3 && text.length() <= 57) {
                    text.append('S').append(d).append(g);
                }
            }
        }
        return text.toString();
    }

    /** Parts in any order, with no glass or nobody now and then: a seat ahead of a later glass, drinkers ahead of all. */
    private static String mixedInn() {
        StringBuilder text = new StringBuilder("G");
        boolean[][] taken = new boolean[4][5];
        int mostGlasses = dice.nextInt(6);
        int mostDrinkers = dice.nextInt(5);
        int glasses = 0;
        int drinkers = 0;
        for (int tries = 0; tries < 60 && text.length() <= 56; tries++) {
            int part = dice.nextInt(4);
            if (part == 0 && glasses < mostGlasses) {
                int measure = 1 + dice.nextInt(9);
                text.append('V').append(measure).append(dice.nextInt(measure + 1)).append(dice.nextInt(4));
                glasses++;
            } else if (part == 1 && drinkers < mostDrinkers) {
                text.append('D').append(dice.nextInt(10)).append(dice.nextInt(4));
                drinkers++;
            } else if (part > 1 && glasses > 0 && drinkers > 0) {
                int d = dice.nextInt(drinkers);
                int g = dice.nextInt(glasses);
                if (!taken[d][g]) {
                    text.append('S').append(d).append(g);
                    taken[d][g] = true;
                }
            }
        }
        return text.toString();
    }

    private static String spoilt(String text) {
        int at = dice.nextInt(text.length());
        char sign = "GVDS0123456789x".charAt(dice.nextInt(15));
        if (dice.nextBoolean()) {
            return text.substring(0, at) + sign + text.substring(at + 1);
        }
        return text.substring(0, at);
    }

    /** Mostly a number that can be meant, seldom one just beside or far off. */
    private static int near(int least, int most) {
        if (dice.nextInt(12) == 0) {
            int[] odd = {least - 1, most + 1, Integer.MIN_VALUE, Integer.MAX_VALUE, dice.nextInt()};
            return odd[dice.nextInt(odd.length)];
        }
        return least + dice.nextInt(most - least + 1);
    }

    private static long doings(int n) {
        if (dice.nextInt(12) == 0) {
            return dice.nextLong() >> dice.nextInt(64);
        }
        long row = 0;
        for (int i = 0; i < n; i++) {
            int kind = dice.nextInt(4);
            row = row * 1000 + (kind == 3 ? 300 : kind * 100 + dice.nextInt(4) * 10 + dice.nextInt(5));
        }
        return row;
    }

    private static void compare(int run, String call, long got, long want) {
        Check.due("run " + run + ": " + call, got, want);
    }

    private static int oneCall(int run) {
        int kind = dice.nextInt(40);
        if (kind < 10) {
            act(run, kind);
        } else if (kind < 20) {
            look(run, kind);
        } else {
            ask(run, kind);
        }
        return 1;
    }

    private static void act(int run, int kind) {
        int a = near(0, 4);
        int b = near(0, 4);
        int n = near(1, 9);
        switch (kind) {
            case 0, 1 -> compare(run, "pour(" + a + ", " + n + ")", x.pour(a, n), model.pour(a, n));
            case 2, 3, 4 -> compare(run, "drink(" + a + ", " + b + ")", x.drink(a, b), model.drink(a, b));
            case 5, 6 -> compare(run, "tip(" + a + ", " + b + ")", x.tip(a, b), model.tip(a, b));
            case 7 -> compare(run, "hour()", x.hour(), model.hour());
            default -> compare(run, "undo()", x.undo(), model.undo());
        }
    }

    private static void look(int run, int kind) {
        int a = near(0, 4);
        int what = near(0, 7);
        int slot = near(0, 1);
        long v = dice.nextLong();
        switch (kind) {
            case 10, 11 -> compare(run, "glass(" + a + ", " + what + ")", x.glass(a, what), model.glass(a, what));
            case 12, 13 -> compare(run, "drinker(" + a + ", " + what + ")", x.drinker(a, what), model.drinker(a, what));
            case 14, 15 -> compare(run, "count(" + what + ")", x.count(what), model.count(what));
            case 16 -> compare(run, "keep(" + slot + ")", x.keep(slot), model.keep(slot));
            case 17 -> compare(run, "again(" + slot + ")", x.again(slot), model.again(slot));
            case 18 -> compare(run, "seed(" + v + ")", x.seed(v), model.seed(v));
            default -> compare(run, "write(" + what + ")", x.write(what), model.write(what));
        }
    }

    private static void ask(int run, int kind) {
        int a = near(0, 3);
        int b = near(0, 3);
        int n = near(0, 9);
        int m = near(1, 4);
        int is = near(0, 9);
        int times = near(1, 30);
        int taxes = near(0, 60) / (1 + dice.nextInt(3));
        int tenths = near(0, 10);
        boolean side = dice.nextBoolean();
        long row = doings(m > 0 && m < 5 ? m : 1);
        switch (kind) {
            case 20 -> compare(run, "left(" + n + ")", x.left(n), model.left(n));
            case 21 -> compare(run, "evening(" + a + ")", x.evening(a), model.evening(a));
            case 22 -> compare(run, "pouring(" + n + ", " + side + ")", x.pouring(n, side), model.pouring(n, side));
            case 23 -> compare(run, "wake()", x.wake(), model.wake());
            case 24 -> compare(run, "order(" + side + ")", x.order(side), model.order(side));
            case 25 -> compare(run, "hall(" + n + ")", x.hall(n), model.hall(n));
            case 26, 27, 28 -> compare(run, "judge(" + m + ", " + row + ")", x.judge(m, row), model.judge(m, row));
            case 29, 30 -> compare(run, "see(" + a + ", " + n + ", " + is + ")", x.see(a, n, is), model.see(a, n, is));
            case 31 -> compare(run, "thirsts(" + a + ")", x.thirsts(a), model.thirsts(a));
            case 32, 33 -> compare(run, "share(" + a + ", " + side + ")", x.share(a, side), model.share(a, side));
            case 34, 35 -> compare(run, "rests(" + a + ", " + b + ", " + m % 3 + ")",
                x.rests(a, b, m % 3), model.rests(a, b, m % 3));
            case 36, 37 -> compare(run, "leak(" + taxes + ", " + tenths + ", " + side + ")",
                x.leak(taxes, tenths, side), model.leak(taxes, tenths, side));
            case 38 -> compare(run, "nights(" + times + ")", x.nights(times), model.nights(times));
            default -> unseeOrFault(run);
        }
    }

    private static void unseeOrFault(int run) {
        switch (dice.nextInt(3)) {
            case 0 -> compare(run, "unsee()", x.unsee(), model.unsee());
            case 1 -> compare(run, "fault()", x.fault(), model.fault());
            default -> compare(run, "inn()", x.inn(), model.inn());
        }
    }
}
