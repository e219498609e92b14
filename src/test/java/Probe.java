import java.util.ArrayList;
import java.util.List;

/** Objects in known states, and all that can be seen of one, so that two of them can be compared. */
final class Probe {
    private Probe() { }

    /** Two men, one SITE, some signs, some of a BOOK, a TRACE, and an image that is not how all is. */
    static BarrowPlank some() {
        BarrowPlank x = Tapes.with("pace 1 s>0;spill 1 y=4;tire 4;shovel 1", 4, 2, 6);
        x.yard(2, 0, 5);
        x.yard(3, 1, 6);
        x.yard(4, 2, 7);
        x.book(50);
        Tapes.put(x, "shovel 9");
        x.image();
        x.man(6, 9, 3);
        x.earth(300);
        x.round(0, 8);
        x.round(1, 5);
        bookOf(x, 3);
        Tapes.put(x, ";tire 8");
        x.act(0, 2, 5);
        return x;
    }

    /** Four men, five SITES, a full TAPE, a full BOOK. */
    static BarrowPlank filled() {
        BarrowPlank x = some();
        x.site();
        for (int k = 2; k < 5; k++) {
            Tapes.read(x, "tire " + k);
        }
        x.man(3, 0, 1);
        x.man(5, 9, 20);
        x.book(-1);
        bookOf(x, 12);
        Tapes.put(x, "pace 12 y=10|" + "y=1|".repeat(21) + "y=9");
        return x;
    }

    private static void bookOf(BarrowPlank x, int rounds) {
        x.book(-1);
        for (int k = 0; k < rounds; k++) {
            x.book(x.run(0, k + 1, 8, 1) - x.run(0, k, 8, 1));
        }
    }

    /** What can be seen without a change. */
    static List<Long> seen(BarrowPlank x) {
        List<Long> all = new ArrayList<>();
        for (int what = 0; what < 5; what++) {
            all.add((long) x.count(what));
        }
        for (int what = 0; what < 6; what++) {
            all.add((long) x.told(what));
        }
        for (int yard = 0; yard < 10; yard++) {
            for (int what = 0; what < 3; what++) {
                all.add((long) x.at(yard, what));
            }
        }
        for (int man = 0; man < 4; man++) {
            for (int what = 0; what < 4; what++) {
                all.add((long) x.of(man, what));
            }
            all.add((long) x.run(man, 1, 8, 1));
            all.add((long) x.run(man, 4, 8, 0));
            all.add((long) x.looked(man, 8));
        }
        for (int i = 0; i < 8; i++) {
            all.add((long) x.trace(i));
        }
        return all;
    }

    /** What can be seen, and then what THE TAPE and THE IMAGE turn out to hold; it changes all. */
    static List<Long> whole(BarrowPlank x) {
        List<Long> all = seen(x);
        all.add((long) x.site());
        all.add((long) x.told(4));
        all.add((long) x.told(5));
        all.add((long) x.undo());
        all.addAll(seen(x));
        all.add((long) x.site());
        all.add((long) x.told(5));
        return all;
    }
}
