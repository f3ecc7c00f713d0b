import java.util.Random;

/** Promise 4 by random texts: the place of the fault against a look at all that could come behind each letter. */
public final class FaultModelTest {
    private static final int TEXTS = 3000;

    public static void main(String[] args) {
        Random dice = new Random(4);
        for (int i = 0; i < TEXTS; i++) {
            String text = text(dice);
            GlassTax x = Check.withText(text);
            Model model = new Model();
            for (int j = 0; j < text.length(); j++) {
                model.write(text.charAt(j));
            }
            Check.due("fault() of " + text, x.fault(), model.fault());
            Check.due("inn() of " + text, x.inn(), model.inn());
        }
        Check.end();
    }

    /** Parts in any order with low figures, so that texts grow long, pairs come twice and limits are met. */
    private static String text(Random dice) {
        StringBuilder text = new StringBuilder("G");
        int parts = dice.nextInt(12);
        for (int i = 0; i < parts; i++) {
            switch (dice.nextInt(4)) {
                case 0 -> text.append('V').append(1 + dice.nextInt(3)).append(dice.nextInt(2)).append(dice.nextInt(4));
                case 1 -> text.append('D').append(dice.nextInt(10)).append(dice.nextInt(4));
                default -> text.append('S').append(dice.nextInt(2)).append(dice.nextInt(2));
            }
        }
        if (dice.nextInt(3) == 0) {
            text.setLength(1 + dice.nextInt(text.length()));
        }
        if (dice.nextInt(3) == 0) {
            text.setCharAt(dice.nextInt(text.length()), "GVDS0123456789".charAt(dice.nextInt(14)));
        }
        return text.toString();
    }
}
