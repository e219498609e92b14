import java.util.Random;

/** Texts of SITES, most of them right, some with a sign changed, put in, left out, or cut off. */
final class SomeSites {
    private static final String SIGNS = "pacesilthrov 0123456789;!()&|<=>ysublkxz";

    private SomeSites() { }

    static String text(Random dice) {
        StringBuilder text = new StringBuilder(clause(dice));
        int more = dice.nextInt(20) == 0 ? 12 : dice.nextInt(6);
        for (int k = 0; k < more; k++) {
            String next = more == 12 ? "tire " + dice.nextInt(30) : clause(dice);
            if (text.length() + next.length() < 105) {
                text.append(';').append(next);
            }
        }
        if (dice.nextInt(3) == 0) {
            spoil(text, dice);
        }
        return text.toString();
    }

    private static void spoil(StringBuilder text, Random dice) {
        int at = dice.nextInt(text.length());
        char sign = dice.nextInt(20) == 0 ? (char) dice.nextInt(128) : SIGNS.charAt(dice.nextInt(SIGNS.length()));
        switch (dice.nextInt(4)) {
            case 0: text.setCharAt(at, sign); break;
            case 1: text.insert(at, sign); break;
            case 2: text.deleteCharAt(at); break;
            default: text.setLength(at);
        }
    }

    private static String clause(Random dice) {
        switch (dice.nextInt(8)) {
            case 0: return "tire " + dice.nextInt(dice.nextInt(4) == 0 ? 100 : 9);
            case 1: return "shovel " + dice.nextInt(dice.nextInt(4) == 0 ? 100 : 4);
            case 2: case 3: return "spill " + dice.nextInt(4) + " " + either(dice, 0);
            case 4: return "ease " + dice.nextInt(6) + " " + either(dice, 0);
            default: return "pace " + dice.nextInt(dice.nextInt(8) == 0 ? 100 : 9) + " " + either(dice, 0);
        }
    }

    private static String either(Random dice, int deep) {
        String text = part(dice, deep);
        while (dice.nextInt(3) == 0) {
            text += (dice.nextBoolean() ? "|" : "&") + part(dice, deep);
        }
        return text;
    }

    private static String part(Random dice, int deep) {
        if (deep < 6 && dice.nextInt(4) == 0) {
            return "!" + part(dice, deep + 1);
        }
        if (deep < 6 && dice.nextInt(5) == 0) {
            return "(" + either(dice, deep + 1) + ")";
        }
        int what = dice.nextInt(6);
        int most = what == 4 ? 20 : what == 5 ? 7 : 10;
        return "" + "ysublk".charAt(what) + "<=>".charAt(dice.nextInt(3)) + dice.nextInt(most);
    }
}
