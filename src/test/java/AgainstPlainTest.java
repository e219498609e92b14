import java.util.Random;

/** Long runs of calls with fixed seeds: every answer is the one of the plain reading. */
public final class AgainstPlainTest {
    private static final int RUNS = 600, CALLS = 512;
    private static final Due due = new Due();

    private final Random dice;
    private final BarrowPlank x = new BarrowPlank();
    private final PlainBarrow plain = new PlainBarrow();
    private int calls = 0;

    private AgainstPlainTest(long seed) {
        dice = new Random(seed);
    }

    public static void main(String[] args) {
        for (int seed = 0; seed < RUNS && !due.hasWrong(); seed++) {
            AgainstPlainTest run = new AgainstPlainTest(seed);
            while (run.calls < CALLS) {
                run.step();
            }
        }
        due.end();
    }

    private void same(String call, long got, long want) {
        calls++;
        due.is("call " + calls + " " + call, got, want);
    }

    /** Mostly within, now and then just or far outside. */
    private int number(int least, int most) {
        int kind = dice.nextInt(40);
        if (kind == 0) return least - 1;
        if (kind == 1) return most + 1;
        if (kind == 2) return dice.nextBoolean() ? Integer.MIN_VALUE : Integer.MAX_VALUE;
        if (kind == 3) return least;
        if (kind == 4) return most;
        return least + dice.nextInt(most - least + 1);
    }

    private int man() {
        return dice.nextInt(12) == 0 ? number(0, 3) : dice.nextInt(Math.max(1, x.count(0)));
    }

    private int load() {
        return number(1, 20);
    }

    private void step() {
        int kind = dice.nextInt(100);
        if (kind < 4) tape();
        else if (kind < 34) change();
        else if (kind < 44) look();
        else if (kind < 80) ask();
        else acts();
    }

    private void tape() {
        String text = SomeSites.text(dice);
        for (int k = 0; k < text.length(); k++) {
            int sign = text.charAt(k);
            same("feed " + sign, x.feed(sign), plain.feed(sign));
        }
        if (dice.nextInt(10) > 0) {
            same("site", x.site(), plain.site());
        }
    }

    private void change() {
        switch (dice.nextInt(7)) {
            case 0: {
                int y = number(0, 9), w = number(0, 2), n = number(0, 9);
                same("yard", x.yard(y, w, n), plain.yard(y, w, n));
                break;
            }
            case 1: {
                int k = number(0, 6), v = number(0, 9), strong = number(1, 20);
                same("man", x.man(k, v, strong), plain.man(k, v, strong));
                break;
            }
            case 2: {
                int n = dice.nextInt(3) > 0 ? 999 : number(0, 999);
                same("earth " + n, x.earth(n), plain.earth(n));
                break;
            }
            case 3: {
                int m = man(), n = number(0, 99);
                same("rest", x.rest(m, n), plain.rest(m, n));
                break;
            }
            default: {
                int m = man(), l = load();
                same("round " + m + " " + l, x.round(m, l), plain.round(m, l));
            }
        }
    }

    private void look() {
        int y = number(0, 9), w = number(0, 5), m = man();
        same("at", x.at(y, w), plain.at(y, w));
        same("told " + w, x.told(w), plain.told(w));
        same("of", x.of(m, w), plain.of(m, w));
        same("count " + w, x.count(w), plain.count(w));
    }

    private void ask() {
        int m = man(), l = load(), what = number(0, 3), t = number(0, 999), n = number(0, 30);
        int long_ = dice.nextInt(20) == 0 ? number(0, 9999) : number(0, 900);
        int width = number(1, 9), few = number(1, 3), p = number(0, 10), part = number(0, 1), m2 = man();
        switch (dice.nextInt(9)) {
            case 0: same("run", x.run(m, n, l, what), plain.run(m, n, l, what)); break;
            case 1: same("by", x.by(m, l, long_), plain.by(m, l, long_)); break;
            case 2:
                if (dice.nextInt(4) == 0) {
                    same("full", x.full(m, long_), plain.full(m, long_));
                }
                break;
            case 3: same("boards", x.boards(m, l, few, width, part), plain.boards(m, l, few, width, part)); break;
            case 4: same("turns", x.turns(m, m2, l, t), plain.turns(m, m2, l, t)); break;
            case 5: same("worth", x.worth(m, t), plain.worth(m, t)); break;
            case 6: same("pave", x.pave(m, l), plain.pave(m, l)); break;
            case 7: same("odds", x.odds(m, l, p, part), plain.odds(m, l, p, part)); break;
            default: book(m, l);
        }
    }

    /** Seconds that a run would take, so that a book is right for a while. */
    private void book(int m, int l) {
        if (dice.nextInt(3) == 0) {
            same("book -1", x.book(-1), plain.book(-1));
        }
        int right = dice.nextInt(6);
        for (int k = 0; k < right; k++) {
            int n = x.run(m, k + 1, l, 1) - x.run(m, k, l, 1);
            calls += 2;
            same("book " + n, x.book(n), plain.book(n));
        }
        if (dice.nextInt(3) == 0) {
            int n = number(0, 9999);
            same("book " + n, x.book(n), plain.book(n));
        }
        same("looked", x.looked(m, l), plain.looked(m, l));
    }

    private void acts() {
        int m = man(), a = number(0, 2), v = dice.nextInt(), k = number(0, 6), i = number(0, 7);
        switch (dice.nextInt(5)) {
            case 0: same("act", x.act(m, a, v), plain.act(m, a, v)); break;
            case 1: same("trace", x.trace(i), plain.trace(i)); break;
            case 2: same("as", x.as(m, k), plain.as(m, k)); break;
            case 3:
                if (dice.nextInt(3) == 0) {
                    same("image", x.image(), plain.image());
                }
                break;
            default:
                if (dice.nextInt(3) == 0) {
                    same("undo", x.undo(), plain.undo());
                }
        }
    }
}
