import java.util.Arrays;
import java.util.List;
import java.util.function.Supplier;

/**
 * Every number that a call takes: the last that is allowed and the first that is not, on both sides, each with each
 * of the call's other numbers; of several refusals the first one told; and a refused call changes nothing.
 */
public final class RefusalsTest {
    private static final Due due = new Due();
    private static final int NONE = -1, BAD = -2, STATE = -3, FULL = -4, FAR_NONE = -1001, FAR_BAD = -1002;
    private static final int NOT_REFUSED = 1;

    private interface Face {
        long call(BarrowPlank x, int[] a);
    }

    /** Which numbers are allowed, and what one outside them is refused with. */
    private record Number(int least, int most, long refusal) {
        boolean allows(int n) {
            return n >= least && n <= most;
        }

        int[] edges() {
            return new int[] {least, most, least - 1, most + 1, Integer.MIN_VALUE, Integer.MAX_VALUE};
        }
    }

    /** How all is ahead of a call; what is seen of it when nothing was called. */
    private static final class Start {
        final Supplier<BarrowPlank> make;
        final int men;
        final boolean isFull;
        final List<Long> whole;

        Start(Supplier<BarrowPlank> make, int men, boolean isFull) {
            this.make = make;
            this.men = men;
            this.isFull = isFull;
            whole = Probe.whole(make.get());
        }
    }

    public static void main(String[] args) {
        Start[] starts = {new Start(BarrowPlank::new, 0, false), new Start(Probe::some, 2, false),
            new Start(Probe::filled, 4, true)};
        for (Start start : starts) {
            sitesYardsMen(start);
            rounds(start);
            boardsTurnsWorth(start);
            booksActsImage(start);
        }
        siteWhenFull(starts[2]);
        undoWithoutImage(starts[0]);
        actOfNobody();
        roundsWhenThereWere999();
        due.end();
    }

    private static Number man(Start start, int refusal) {
        return new Number(0, start.men - 1, refusal);
    }

    private static Number what(int most, int refusal) {
        return new Number(0, most, refusal);
    }

    private static Number number(int least, int most) {
        return new Number(least, most, BAD);
    }

    private static Number farNumber(int least, int most) {
        return new Number(least, most, FAR_BAD);
    }

    private static void sitesYardsMen(Start start) {
        edges(start, "feed", (x, a) -> x.feed(a[0]), number(0, 127));
        edges(start, "yard", (x, a) -> x.yard(a[0], a[1], a[2]), what(9, NONE), what(2, NONE), number(0, 9));
        edges(start, "at", (x, a) -> x.at(a[0], a[1]), what(9, NONE), what(2, NONE));
        edges(start, "earth", (x, a) -> x.earth(a[0]), number(0, 999));
        edges(start, "told", (x, a) -> x.told(a[0]), what(5, NONE));
        edges(start, "man", (x, a) -> x.man(a[0], a[1], a[2]), what(6, NONE), number(0, 9), number(1, 20));
        edges(start, "of", (x, a) -> x.of(a[0], a[1]), man(start, NONE), what(3, NONE));
    }

    private static void rounds(Start start) {
        edges(start, "round", (x, a) -> x.round(a[0], a[1]), man(start, NONE), number(1, 20));
        edges(start, "rest", (x, a) -> x.rest(a[0], a[1]), man(start, NONE), number(0, 99));
        edges(start, "run", (x, a) -> x.run(a[0], a[1], a[2], a[3]), man(start, FAR_NONE), farNumber(0, 30),
            farNumber(1, 20), what(3, FAR_NONE));
        edges(start, "by", (x, a) -> x.by(a[0], a[1], a[2]), man(start, NONE), number(1, 20), number(0, 9999));
        edges(start, "full", (x, a) -> x.full(a[0], a[1]), man(start, NONE), number(0, 9999));
    }

    private static void boardsTurnsWorth(Start start) {
        edges(start, "boards", (x, a) -> x.boards(a[0], a[1], a[2], a[3], a[4]), man(start, FAR_NONE),
            farNumber(1, 20), farNumber(1, 3), farNumber(1, 9), what(1, FAR_NONE));
        edges(start, "turns", (x, a) -> x.turns(a[0], a[1], a[2], a[3]), man(start, NONE), man(start, NONE),
            number(1, 20), number(0, 999));
        edges(start, "worth", (x, a) -> x.worth(a[0], a[1]), man(start, FAR_NONE), farNumber(0, 999));
        edges(start, "pave", (x, a) -> x.pave(a[0], a[1]), man(start, NONE), number(1, 20));
        long no = BarrowPlank.NO;
        edges(start, "odds", (x, a) -> x.odds(a[0], a[1], a[2], a[3]), new Number(0, start.men - 1, no),
            new Number(1, 20, no), new Number(0, 10, no), new Number(0, 1, no));
    }

    private static void booksActsImage(Start start) {
        edges(start, "book", (x, a) -> x.book(a[0]), number(-1, 9999));
        edges(start, "book", (x, a) -> x.book(a[0]), number(0, 9999));
        edges(start, "looked", (x, a) -> x.looked(a[0], a[1]), man(start, NONE), number(1, 20));
        int bodies = start.make.get().count(4);
        edges(start, "trace", (x, a) -> x.trace(a[0]), what(bodies - 1, NONE));
        edges(start, "as", (x, a) -> x.as(a[0], a[1]), man(start, NONE), what(6, NONE));
        edges(start, "count", (x, a) -> x.count(a[0]), what(4, NONE));
    }

    /** Each edge of each number with each edge of all others. */
    private static void edges(Start start, String name, Face face, Number... numbers) {
        int all = 1;
        for (Number one : numbers) {
            all *= one.edges().length;
        }
        for (int pick = 0; pick < all; pick++) {
            int[] a = new int[numbers.length];
            int rest = pick;
            for (int k = 0; k < a.length; k++) {
                int[] edges = numbers[k].edges();
                a[k] = edges[rest % edges.length];
                rest /= edges.length;
            }
            one(start, name, face, numbers, a);
        }
    }

    private static void one(Start start, String name, Face face, Number[] numbers, int[] a) {
        String call = name + Arrays.toString(a) + " with " + start.men + " men";
        long refusal = refusal(start, name, numbers, a);
        BarrowPlank x = start.make.get();
        long answer = face.call(x, a);
        if (refusal == NOT_REFUSED) {
            due.holds(call + " is not refused: " + answer, !isRefusal(name, answer));
        } else {
            due.is(call, answer, refusal);
            due.holds(call + " changes nothing", Probe.whole(x).equals(start.whole));
        }
    }

    /** They are told in the order NONE, BAD, STATE, FULL, which are less and less: the first one is the greatest. */
    private static long refusal(Start start, String name, Number[] numbers, int[] a) {
        long first = Long.MIN_VALUE;
        boolean refused = false;
        for (int k = 0; k < a.length; k++) {
            boolean empties = name.equals("book") && a[k] == -1;
            if (!numbers[k].allows(a[k]) && !empties) {
                first = Math.max(first, numbers[k].refusal);
                refused = true;
            }
        }
        if (name.equals("turns") && a[0] == a[1]) {
            first = Math.max(first, BAD);
            refused = true;
        }
        boolean grows = name.equals("man") || name.equals("feed") || name.equals("book") && a[0] != -1;
        if (start.isFull && grows) {
            first = Math.max(first, FULL);
            refused = true;
        }
        return refused ? first : NOT_REFUSED;
    }

    /** -5 and -6 are answers, and boards() and worth() may answer what is below 0. */
    private static boolean isRefusal(String name, long answer) {
        if (name.equals("boards") || name.equals("worth")) {
            return answer == FAR_NONE || answer == FAR_BAD;
        }
        return answer < 0 && answer != -5 && answer != -6;
    }

    private static void siteWhenFull(Start start) {
        BarrowPlank x = start.make.get();
        due.is("a sixth site", x.site(), FULL);
        due.holds("a sixth site changes nothing", Probe.whole(x).equals(start.whole));
    }

    private static void undoWithoutImage(Start start) {
        BarrowPlank x = start.make.get();
        due.is("undo without an image", x.undo(), STATE);
        due.holds("undo without an image changes nothing", Probe.whole(x).equals(start.whole));
        BarrowPlank twin = Tapes.with("tire 6", 1, 2, 3);
        x = Tapes.with("tire 6", 1, 2, 3);
        due.is("undo without an image, of some", x.undo(), STATE);
        due.holds("undo without an image changes nothing of some", Probe.whole(x).equals(Probe.whole(twin)));
    }

    /** It answers 0 and there is no TRACE then; all else stays. */
    private static void actOfNobody() {
        int[][] refused = {{2, 0}, {-1, 0}, {0, 3}, {0, -1}, {2, 3}, {Integer.MIN_VALUE, 1}, {Integer.MAX_VALUE, 2},
            {1, Integer.MIN_VALUE}, {1, Integer.MAX_VALUE}};
        for (int[] a : refused) {
            String call = "act" + Arrays.toString(a);
            BarrowPlank x = Probe.some();
            due.is("bodies ahead of " + call, x.count(4), 7);
            due.is(call, x.act(a[0], a[1], 5), 0);
            due.is("bodies behind " + call, x.count(4), 0);
            due.is("no trace behind " + call, x.trace(0), NONE);
            x.act(0, 2, 5);
            due.holds(call + " changes nothing else", Probe.whole(x).equals(Probe.whole(Probe.some())));
        }
    }

    /** Beyond the 512 calls that an object is promised for, since no fewer get there. */
    private static void roundsWhenThereWere999() {
        BarrowPlank x = after999();
        due.is("there were 999", x.told(3), 999);
        due.is("one more", x.round(0, 1), STATE);
        due.is("one more by the other man", x.round(1, 20), STATE);
        due.is("of nobody", x.round(2, 1), NONE);
        due.is("with too much", x.round(0, 21), BAD);
        due.holds("one more changes nothing", Probe.whole(x).equals(Probe.whole(after999())));
    }

    private static BarrowPlank after999() {
        BarrowPlank x = Probe.some();
        for (int k = 2; k < 998; k++) {
            x.round(0, 1);
        }
        due.is("the 999th", x.round(1, 1) > 0 ? 1 : 0, 1);
        return x;
    }
}
