import java.util.List;
import java.util.function.ToLongFunction;

/** What is only asked, books, acts, the image: each sentence that names a bound, just within it and just beyond. */
public final class AskedTest {
    private static final Due due = new Due();
    private static final int OVER = 0, SECONDS = 1, TIRED = 2, LOST = 3;
    private static final int SET = 0, SAVES = 1;

    public static void main(String[] args) {
        changesNothing();
        goesOnFromHowAllIs();
        runsOfNoneToThirty();
        runsWithoutEarth();
        byTOrFewer();
        byTwoHundred();
        howFullTheLeast();
        boardsOneToThree();
        boardsTheLeastAsBits();
        tooFewYards();
        savesBelowNone();
        turnsOfUnlikeMen();
        turnsAtOneShovel();
        turnsTillTheFirst();
        turnsGoOn();
        worthWithTen();
        worthByNumbers();
        worthBelowNone();
        paveTheLeast();
        oddsOfTen();
        oddsWhereSomethingWouldBeLost();
        bookOfTwelve();
        lookedFromZero();
        actsWrap();
        traceOfTheLatest();
        asOneUnderThat();
        imageOfAll();
        imageOfTapeAndBook();
        undoAgainAndAgain();
        due.end();
    }

    private static BarrowPlank plain(int kind, int v) {
        BarrowPlank x = new BarrowPlank();
        x.man(kind, v, 20);
        return x;
    }

    /** "All that follows is asked, goes on from how all is, and changes nothing." */
    private static void changesNothing() {
        List<ToLongFunction<BarrowPlank>> asked = List.of(
            x -> x.run(0, 30, 20, SECONDS), x -> x.run(1, 5, 1, LOST), x -> x.by(0, 20, 9999), x -> x.full(1, 9999),
            x -> x.boards(0, 8, 3, 9, SET), x -> x.boards(1, 20, 1, 1, SAVES), x -> x.turns(0, 1, 20, 999),
            x -> x.turns(1, 0, 1, 999), x -> x.worth(0, 999), x -> x.worth(1, 999), x -> x.pave(0, 20),
            x -> x.pave(1, 1), x -> x.odds(0, 20, 5, 1), x -> x.odds(1, 1, 10, 0), x -> x.looked(0, 8),
            x -> x.looked(1, 20), x -> x.at(9, 2), x -> x.told(5), x -> x.of(1, 3), x -> x.trace(6), x -> x.as(1, 6),
            x -> x.as(0, 6), x -> x.count(4));
        List<Long> some = Probe.whole(Probe.some());
        List<Long> filled = Probe.whole(Probe.filled());
        for (int k = 0; k < asked.size(); k++) {
            BarrowPlank x = Probe.some();
            long first = asked.get(k).applyAsLong(x);
            due.is("question " + k + " again", asked.get(k).applyAsLong(x), first);
            due.holds("question " + k + " changes nothing", Probe.whole(x).equals(some));
            x = Probe.filled();
            asked.get(k).applyAsLong(x);
            due.holds("question " + k + " changes nothing when all is full", Probe.whole(x).equals(filled));
        }
    }

    /** Ground that is soft, a man who is TIRED, ROUNDS that went are where a question begins. */
    private static void goesOnFromHowAllIs() {
        BarrowPlank x = Tapes.with("shovel 0;tire 9;pace 1 s>0", 0, 0, 1);
        due.is("three ROUNDS", x.run(0, 3, 2, SECONDS), 40 + 40 + 60);
        x.round(0, 2);
        due.is("two more", x.run(0, 2, 2, SECONDS), 40 + 60);
        due.is("three more", x.run(0, 3, 2, SECONDS), 40 + 60 + 100);
        due.is("BY from there", x.by(0, 2, 99), 2);
        due.is("BY from there, 1 more", x.by(0, 2, 100), 4);
        due.is("TIRED from there", x.run(0, 0, 2, TIRED), 9);
        due.is("OVER that comes, not that came", x.run(0, 0, 2, OVER) + x.run(0, 0, 2, LOST), 0);
    }

    /** "RUN of a man, n ROUNDS (0 .. 30) with a LOAD" */
    private static void runsOfNoneToThirty() {
        BarrowPlank x = Tapes.with("shovel 1;spill 1 y=0;tire 3", 0, 0, 4);
        x.earth(999);
        int seconds = 0, tired = 0;
        for (int n = 0; n <= 30; n++) {
            due.is("OVER of " + n, x.run(0, n, 5, OVER), 4 * n);
            due.is("lost of " + n, x.run(0, n, 5, LOST), n);
            due.is("seconds of " + n, x.run(0, n, 5, SECONDS), seconds);
            due.is("TIRED of " + n, x.run(0, n, 5, TIRED), tired);
            seconds += 45 + tired / 10 * 20;
            tired += 3;
        }
        due.is("-1 ROUNDS", x.run(0, -1, 5, OVER), -1002);
        due.is("31 ROUNDS", x.run(0, 31, 5, OVER), -1002);
    }

    /** "(also when no EARTH is left)" */
    private static void runsWithoutEarth() {
        BarrowPlank x = Tapes.with("shovel 3;tire 2;pace 1 s>0", 2, 7, 9);
        x.earth(25);
        // 10, 10, 5, and then nothing comes in the barrow; each takes its seconds and rests him all the same.
        due.is("seconds", x.run(0, 4, 10, SECONDS), 77 + 77 + 62 + 67);
        due.is("OVER", x.run(0, 30, 10, OVER), 25);
        due.is("TIRED behind 2", x.run(0, 2, 10, TIRED), 4);
        due.is("TIRED behind 3", x.run(0, 3, 10, TIRED), 3);
        due.is("TIRED behind 6", x.run(0, 6, 10, TIRED), 0);
        due.is("TIRED behind 30", x.run(0, 30, 10, TIRED), 0);
        x.earth(0);
        due.is("none of it", x.run(0, 30, 20, OVER) + x.run(0, 30, 20, LOST) + x.run(0, 30, 20, TIRED), 0);
        due.is("seconds of 3", x.run(0, 3, 20, SECONDS), 3 * 47);
        due.is("softer behind 3", x.run(0, 4, 20, SECONDS), 3 * 47 + 67);
        due.is("a ROUND too", x.round(0, 20), 47);
        due.is("it is one that went", x.told(3) * 1000 + x.told(2), 1047);
    }

    /** "as far as they take t seconds or fewer, together"; t (0 .. 9999) */
    private static void byTOrFewer() {
        BarrowPlank x = plain(0, 0);
        x.earth(999);
        for (int rounds = 1; rounds < 12; rounds++) {
            due.is("a second short of " + rounds, x.by(0, 10, 60 * rounds - 1), 10 * rounds - 10);
            due.is("just in time for " + rounds, x.by(0, 10, 60 * rounds), 10 * rounds);
            due.is("a second more than " + rounds, x.by(0, 10, 60 * rounds + 1), 10 * rounds);
        }
        due.is("t 0", x.by(0, 10, 0), 0);
        due.is("t -1", x.by(0, 10, -1), BarrowPlank.BAD);
        due.is("t 10000", x.by(0, 10, 10000), BarrowPlank.BAD);
        // 199 ROUNDS of 50 seconds, and one with the last 4 that takes 48.
        due.is("t 9997", x.by(0, 5, 9997), 995);
        due.is("t 9998", x.by(0, 5, 9998), 999);
        BarrowPlank last = Tapes.with("shovel 1;pace 99 y<4;pace 38 y=9", 0, 0, 20);
        due.is("11 of these take 9999", last.run(0, 11, 1, SECONDS), 9999);
        due.is("t 9998, a second short", last.by(0, 1, 9998), 10);
        due.is("t 9999, just in time", last.by(0, 1, 9999), 11);
        x.earth(0);
        due.is("without EARTH", x.by(0, 20, 9999), 0);
    }

    /** "(200 ROUNDS at most)" */
    private static void byTwoHundred() {
        BarrowPlank x = Tapes.with("shovel 0;ease 9 y<10", 0, 0, 20);
        x.earth(999);
        due.is("199", x.by(0, 1, 200 * 20 - 1), 199);
        due.is("200", x.by(0, 1, 200 * 20), 200);
        due.is("201 would be in time", x.by(0, 1, 201 * 20), 200);
        due.is("t 9999", x.by(0, 1, 9999), 200);
        due.is("of 4", x.by(0, 4, 9999), 800);
        due.is("of 5, no more than EARTH", x.by(0, 5, 9999), 999);
        due.is("HOW FULL by that", x.full(0, 9999), 5);
        x.earth(800);
        due.is("HOW FULL of 800", x.full(0, 9999), 4);
        x.earth(801);
        due.is("HOW FULL of 801", x.full(0, 9999), 5);
    }

    /** "HOW FULL of a man for t: the LOAD by which BY is most (of several the least)" */
    private static void howFullTheLeast() {
        BarrowPlank x = plain(0, 0);
        due.is("none comes OVER: the least LOAD", x.full(0, 0), 1);
        due.is("41 seconds: none", x.full(0, 41), 1);
        due.is("42 seconds", x.full(0, 42), 1);
        due.is("43 seconds: 2 takes 44", x.full(0, 43), 1);
        due.is("44 seconds", x.full(0, 44), 2);
        due.is("79 seconds", x.full(0, 79), 19);
        due.is("80 seconds", x.full(0, 80), 20);
        due.is("119 seconds", x.full(0, 119), 20);
        x.earth(20);
        due.is("no more by a second ROUND", x.full(0, 9999), 1);
        x.earth(0);
        due.is("no EARTH", x.full(0, 9999), 1);
        BarrowPlank full = plain(1, 9);
        due.is("11 and 9 are 20: the least", full.full(0, 80), 11);
        BarrowPlank spills = Tapes.with("spill 99 l<20", 0, 0, 20);
        due.is("the last LOAD alone", spills.full(0, 9999), 20);
        BarrowPlank least = Tapes.with("spill 99 l>1", 0, 0, 20);
        due.is("the first LOAD alone", least.full(0, 9999), 1);
        due.is("t -1", x.full(0, -1), BarrowPlank.BAD);
        due.is("t 10000", x.full(0, 10000), BarrowPlank.BAD);
    }

    /** "if n BOARDS (1 .. 3) of a width (1 .. 9) were laid" */
    private static void boardsOneToThree() {
        for (int width = 1; width < 10; width++) {
            BarrowPlank x = Tapes.with("ease 1 y=9&b=" + width + ";ease 1 y=5&b=" + width + ";ease 1 y=7&b=" + width,
                0, 0, 20);
            int wrong = width == 9 ? 1 : width + 1;
            due.is("1 of " + width, x.boards(0, 1, 1, width, SET), 1 << 5);
            due.is("2 of " + width, x.boards(0, 1, 2, width, SET), 1 << 5 | 1 << 7);
            due.is("3 of " + width, x.boards(0, 1, 3, width, SET), 1 << 5 | 1 << 7 | 1 << 9);
            due.is("1 saves", x.boards(0, 1, 1, width, SAVES), 2);
            due.is("2 save", x.boards(0, 1, 2, width, SAVES), 4);
            due.is("3 save", x.boards(0, 1, 3, width, SAVES), 6);
            due.is("3 of another width", x.boards(0, 1, 3, wrong, SET), 7);
            due.is("3 of another width save", x.boards(0, 1, 3, wrong, SAVES), 0);
        }
        BarrowPlank x = plain(0, 0);
        due.is("n 0", x.boards(0, 1, 0, 1, SET), -1002);
        due.is("n 4", x.boards(0, 1, 4, 1, SET), -1002);
        due.is("width 0", x.boards(0, 1, 1, 0, SET), -1002);
        due.is("width 10", x.boards(0, 1, 1, 10, SET), -1002);
    }

    /** "of several the least as bits" */
    private static void boardsTheLeastAsBits() {
        BarrowPlank x = plain(0, 0);
        due.is("1, all alike", x.boards(0, 1, 1, 5, SET), 1);
        due.is("2, all alike", x.boards(0, 1, 2, 5, SET), 3);
        due.is("3, all alike", x.boards(0, 1, 3, 5, SET), 7);
        x.yard(0, 2, 9);
        due.is("1, but not YARD 0", x.boards(0, 1, 1, 5, SET), 2);
        x.yard(2, 2, 1);
        due.is("3, but not YARDS 0 and 2", x.boards(0, 1, 3, 5, SET), 2 | 8 | 16);
        BarrowPlank two = Tapes.with("pace 3 y=9&b=0;pace 3 y=1&b=0;pace 1 y=0&b>0", 0, 0, 20);
        due.is("1 of two alike", two.boards(0, 1, 1, 5, SET), 2);
        due.is("both", two.boards(0, 1, 2, 5, SET), 2 | 512);
        due.is("both and the least that harms not", two.boards(0, 1, 3, 5, SET), 2 | 4 | 512);
        BarrowPlank last = Tapes.with("ease 1 b>0&y>6", 0, 0, 20);
        due.is("the greatest set", last.boards(0, 1, 3, 5, SET), 128 | 256 | 512);
    }

    /** "(-5: there are too few such YARDS)" */
    private static void tooFewYards() {
        BarrowPlank x = plain(0, 0);
        for (int laid = 0; laid <= 10; laid++) {
            for (int n = 1; n <= 3; n++) {
                int set = x.boards(0, 1, n, 5, SET);
                int saves = x.boards(0, 1, n, 5, SAVES);
                if (10 - laid < n) {
                    due.is("too few for " + n + " behind " + laid, set, -5);
                    due.is("too few to save by " + n + " behind " + laid, saves, -5);
                } else {
                    due.is("just so many for " + n + " behind " + laid, set, ((1 << n) - 1) << laid);
                    due.is("saves by " + n + " behind " + laid, saves, 0);
                }
            }
            x.yard(Math.min(laid, 9), 2, 1 + laid % 9);
        }
    }

    /** "SAVES: the seconds that one ROUND takes now less those (may be below 0)" */
    private static void savesBelowNone() {
        BarrowPlank off = plain(6, 9);
        due.is("below 0", off.boards(0, 1, 1, 8, SAVES), -40);
        due.is("of 3", off.boards(0, 1, 3, 8, SAVES), -120);
        due.is("wide enough", off.boards(0, 1, 3, 9, SAVES), 0);
        BarrowPlank lighter = Tapes.with("pace 1 l>9", 4, 3, 20);
        // With 3 lost on the BOARD in YARD 0 what is left takes no pace from YARD 1 on.
        due.is("what is lost makes it lighter", lighter.boards(0, 9, 1, 1, SET), 1);
        due.is("and saves", lighter.boards(0, 9, 1, 1, SAVES), 9);
    }

    /** "TURNS of two unlike men with a LOAD" */
    private static void turnsOfUnlikeMen() {
        BarrowPlank x = plain(0, 0);
        x.man(0, 0, 20);
        due.is("one man", x.turns(0, 0, 1, 1), BarrowPlank.BAD);
        due.is("the other one man", x.turns(1, 1, 1, 1), BarrowPlank.BAD);
        due.is("two men of one kind", x.turns(0, 1, 1, 42), 1);
        due.is("one man who is nobody", x.turns(2, 2, 1, 1), BarrowPlank.NONE);
        due.is("the first is nobody", x.turns(2, 0, 1, 1), BarrowPlank.NONE);
        due.is("the other is nobody", x.turns(0, 2, 1, 1), BarrowPlank.NONE);
        due.is("t 0", x.turns(0, 1, 1, 0), 0);
        due.is("t 999", x.turns(0, 1, 1, 999), 23 + 23);
        due.is("t -1", x.turns(0, 1, 1, -1), BarrowPlank.BAD);
        due.is("t 1000", x.turns(0, 1, 1, 1000), BarrowPlank.BAD);
    }

    /** "one begins to fill when he is back (at once, if he had none) and the other one has filled and gone" */
    private static void turnsAtOneShovel() {
        BarrowPlank x = Tapes.with("shovel 10", 0, 0, 20);
        x.man(2, 9, 20);
        // 0 fills 0 .. 30, is back at 70; 1 fills 30 .. 69 (9 more), is back at 109; 0 fills 70 .. 100, is back at 140;
        // 1 fills 109 .. 148, is back at 188; 0 waits for the shovel till 148, is back at 218.
        int[] ends = {70, 109, 140, 188, 218};
        for (int k = 0; k < ends.length; k++) {
            due.is("a second short of " + ends[k], x.turns(0, 1, 3, ends[k] - 1), 3 * k);
            due.is("at " + ends[k], x.turns(0, 1, 3, ends[k]), 3 * k + 3);
        }
        // 1 fills 0 .. 39, is back at 79; 0 fills 39 .. 69, is back at 109; 1 fills 79 .. 118, is back at 158;
        // 0 waits for the shovel till 118, is back at 188.
        int[] other = {79, 109, 158, 188};
        for (int k = 0; k < other.length; k++) {
            due.is("the other first, short of " + other[k], x.turns(1, 0, 3, other[k] - 1), 3 * k);
            due.is("the other first, at " + other[k], x.turns(1, 0, 3, other[k]), 3 * k + 3);
        }
        BarrowPlank none = Tapes.with("shovel 0", 0, 0, 20);
        none.man(0, 0, 20);
        due.is("no time to fill: both at once", none.turns(0, 1, 5, 40), 10);
        due.is("and again", none.turns(0, 1, 5, 79), 10);
        due.is("both again", none.turns(0, 1, 5, 80), 20);
    }

    /** "OVER that comes by ROUNDS that end in t seconds (0 .. 999) or fewer, till the first one that does not" */
    private static void turnsTillTheFirst() {
        BarrowPlank x = Tapes.with("shovel 0;pace 8 k=2", 0, 0, 20);
        x.man(2, 0, 20);
        // 0 is back at 40, 80, 120, 160, 200; 1, who takes 200, at 200: in order 0 40, 1 200, 0 80, 1 400, 0 120.
        due.is("0 alone", x.turns(0, 1, 5, 199), 5);
        due.is("0, 1 and 0", x.turns(0, 1, 5, 200), 15);
        due.is("not the next though 0 is back in time", x.turns(0, 1, 5, 399), 15);
        due.is("five", x.turns(0, 1, 5, 400), 25);
        due.is("1 first: none in 199, though 0 is back in time", x.turns(1, 0, 5, 199), 0);
        due.is("1 first", x.turns(1, 0, 5, 200), 10);
    }

    /** "how all is goes on ROUND by ROUND in that order" */
    private static void turnsGoOn() {
        BarrowPlank x = Tapes.with("shovel 0;pace 1 s>0;tire 10", 0, 0, 20);
        x.man(0, 0, 4);
        // The third makes it soft, and 1 is TIRED by each: back at 40, 40, 80, 40 + 80, 80 + 60, 120 + 100, 140 + 60.
        int[] ends = {40, 80, 120, 140, 220};
        int[] over = {10, 15, 20, 25, 35};
        for (int k = 0; k < ends.length; k++) {
            due.is("short of " + ends[k], x.turns(0, 1, 5, ends[k] - 1), k == 0 ? 0 : over[k - 1]);
            due.is("at " + ends[k], x.turns(0, 1, 5, ends[k]), over[k]);
        }
        x.round(0, 5);
        due.is("OVER that comes, not that came", x.turns(0, 1, 5, 0), 0);
        due.is("behind a ROUND that went", x.turns(0, 1, 5, 40), 10);
        x.earth(12);
        due.is("EARTH goes on", x.turns(0, 1, 5, 999), 12);
        x.earth(0);
        due.is("no EARTH", x.turns(0, 1, 5, 999), 0);
    }

    /** "each with a LOAD of 10 for t seconds"; t (0 .. 999) */
    private static void worthWithTen() {
        BarrowPlank x = plain(0, 0);
        x.earth(999);
        due.is("t 0", x.worth(0, 0), 0);
        due.is("t 59", x.worth(0, 59), 0);
        due.is("t 60", x.worth(0, 60), 10);
        due.is("t 119", x.worth(0, 119), 10);
        due.is("t 120", x.worth(0, 120), 20);
        due.is("t 999", x.worth(0, 999), 160);
        due.is("t -1", x.worth(0, -1), -1002);
        due.is("t 1000", x.worth(0, 1000), -1002);
        BarrowPlank full = plain(1, 9);
        due.is("FULL with 10 and 9", full.worth(0, 78), 19);
        due.is("FULL a second short", full.worth(0, 77), 0);
        BarrowPlank often = Tapes.with("shovel 0;ease 9 y<10", 0, 0, 20);
        often.earth(999);
        due.is("as many as there is time for", often.worth(0, 999), 490);
    }

    /** "BY of all MEN, by numbers, one behind the other (.. how all is going on), together, less the same without" */
    private static void worthByNumbers() {
        BarrowPlank x = plain(0, 0);
        x.man(0, 0, 20);
        x.man(0, 0, 20);
        x.man(0, 0, 20);
        x.earth(35);
        // Each brings 10 in 60 seconds, the fourth the 5 that are left; without one the three bring 30.
        for (int man = 0; man < 4; man++) {
            due.is("one of four", x.worth(man, 60), 5);
        }
        x.earth(40);
        due.is("just so much", x.worth(3, 60), 10);
        x.earth(30);
        due.is("three would do", x.worth(0, 60), 0);
        x.earth(0);
        due.is("nothing to do", x.worth(0, 999), 0);
        BarrowPlank order = Tapes.with("spill 20 k=1", 0, 0, 20);
        order.man(1, 0, 20);
        order.earth(10);
        due.is("0 is ahead and takes all", order.worth(0, 60), 10);
        due.is("1 gets nothing", order.worth(1, 60), 0);
        order = Tapes.with("spill 20 k=1", 1, 0, 20);
        order.man(0, 0, 20);
        order.earth(10);
        due.is("0 is ahead and spills all", order.worth(0, 60), -10);
        due.is("1 gets nothing behind him", order.worth(1, 60), 0);
    }

    /** WORTH may be below 0: as the document's sum says, and -1001 and -1002 stand for refusals. */
    private static void worthBelowNone() {
        BarrowPlank x = Tapes.with("spill 99 k=1;shovel 0;ease 9 y<10", 1, 9, 20);
        x.man(1, 9, 20);
        x.man(0, 0, 20);
        x.earth(490);
        due.is("two who spill: one is enough to", x.worth(0, 999), 0);
        x = Tapes.with("spill 99 k=1;shovel 0;ease 9 y<10", 1, 9, 20);
        x.man(0, 0, 20);
        x.earth(490);
        due.is("all is spilt that another would bring", x.worth(0, 999), -490);
        due.is("nobody", x.worth(2, 999), -1001);
    }

    /** "the YARD such that, if its SOFT and SLOPE were 0, one ROUND would take the fewest seconds (.. the least)" */
    private static void paveTheLeast() {
        BarrowPlank x = Tapes.with("pace 1 s>0;pace 1 u>0", 0, 0, 20);
        due.is("all alike", x.pave(0, 1), 0);
        x.yard(9, 0, 1);
        due.is("the last YARD", x.pave(0, 1), 9);
        x.yard(8, 1, 1);
        due.is("of two the least", x.pave(0, 1), 8);
        x.yard(9, 1, 1);
        due.is("SOFT and SLOPE both", x.pave(0, 1), 9);
        x.yard(0, 0, 9);
        x.yard(0, 1, 9);
        due.is("YARD 0", x.pave(0, 1), 0);
        x.yard(0, 2, 9);
        due.is("with a BOARD likewise", x.pave(0, 1), 0);
        BarrowPlank worse = Tapes.with("pace 9 s=0", 0, 0, 20);
        for (int yard = 0; yard < 10; yard++) {
            worse.yard(yard, 0, 1);
        }
        worse.yard(7, 0, 0);
        due.is("where nothing changes, if all else is worse", worse.pave(0, 1), 7);
        // YARD 2 would take 1 less, YARD 7 2 less; at 1 or below 0 it would be otherwise.
        String[] one = {"s", "u"};
        for (int what = 0; what < 2; what++) {
            BarrowPlank none = Tapes.with("pace 4 y=2&#=5;pace 3 y=2&#=0;pace 3 y=7&#=5;pace 1 y=7&#=0;pace 9 y=7&#=1"
                .replace('#', one[what].charAt(0)), 0, 0, 20);
            none.yard(2, what, 5);
            none.yard(7, what, 5);
            due.is("as if it were 0", none.pave(0, 1), 7);
        }
        due.is("LOAD 0", x.pave(0, 0), BarrowPlank.BAD);
        due.is("LOAD 21", x.pave(0, 21), BarrowPlank.BAD);
        due.is("LOAD 20", x.pave(0, 20), 0);
    }

    /** "lost with odds of p (0 .. 10) of ten, each by itself: how likely nothing is: a fraction in lowest terms" */
    private static void oddsOfTen() {
        int[] above = {1, 9, 4, 7, 3, 1, 2, 3, 1, 1, 0};
        int[] below = {1, 10, 5, 10, 5, 2, 5, 10, 5, 10, 1};
        for (int yards = 0; yards <= 10; yards++) {
            BarrowPlank x = Tapes.with("spill 1 y<" + yards, 0, 0, 20);
            for (int p = 0; p <= 10; p++) {
                long up = 1, down = 1;
                for (int k = 0; k < yards; k++) {
                    up *= above[p];
                    down *= below[p];
                }
                due.is("above, p " + p + " in " + yards, x.odds(0, 20, p, 0), up);
                due.is("below, p " + p + " in " + yards, x.odds(0, 20, p, 1), down);
            }
            due.is("p -1", x.odds(0, 20, -1, 0), BarrowPlank.NO);
            due.is("p 11", x.odds(0, 20, 11, 0), BarrowPlank.NO);
        }
    }

    private static long risky(BarrowPlank x, int load) {
        return Long.numberOfTrailingZeros(x.odds(0, load, 5, 1));
    }

    /** "each YARD in which something would be lost .., were what came in the barrow still in it (OFF's half aside)" */
    private static void oddsWhereSomethingWouldBeLost() {
        due.is("all lost at once", risky(Tapes.with("spill 99 y<10", 0, 0, 20), 1), 10);
        due.is("as if still full", risky(Tapes.with("spill 1 l=20", 0, 0, 20), 20), 10);
        due.is("not by what is left", risky(Tapes.with("spill 1 l<20", 0, 0, 20), 20), 0);
        due.is("not by spill 0", risky(Tapes.with("spill 0 y<10", 0, 0, 20), 20), 0);
        due.is("not on the way back", risky(Tapes.with("spill 1 l=0", 0, 0, 20), 20), 0);
        BarrowPlank x = Tapes.with("spill 1 l=7", 1, 2, 20);
        due.is("what came, not LOAD", risky(x, 5), 10);
        due.is("not LOAD", risky(x, 7), 0);
        x.earth(7);
        due.is("no more than EARTH", risky(x, 20), 10);
        x.earth(6);
        due.is("1 less EARTH", risky(x, 20), 0);
        BarrowPlank off = Tapes.with("spill 1 y=3", 6, 9, 20);
        for (int yard = 0; yard < 10; yard++) {
            off.yard(yard, 2, 1);
        }
        due.is("OFF's half aside", risky(off, 20), 1);
        BarrowPlank heaped = plain(4, 1);
        due.is("HEAPED without a BOARD", risky(heaped, 20), 0);
        heaped.yard(0, 2, 1);
        heaped.yard(9, 2, 9);
        due.is("HEAPED on two", risky(heaped, 20), 2);
        BarrowPlank none = plain(4, 0);
        none.yard(0, 2, 1);
        due.is("HEAPED of v 0", risky(none, 20), 0);
        due.is("SPILT in YARD v", risky(plain(5, 9), 20), 1);
        due.is("SPILT in YARD 0", risky(plain(5, 0), 1), 1);
        due.is("in YARD v by both is once", risky(Tapes.with("spill 1 y=4", 5, 4, 20), 1), 1);
        BarrowPlank empty = Tapes.with("spill 1 y<10", 5, 4, 20);
        empty.earth(0);
        due.is("no EARTH: nothing can be lost", empty.odds(0, 20, 10, 0) * 10 + empty.odds(0, 20, 10, 1), 11);
    }

    /** "Seconds (0 .. 9999) come to the BOOK: how many there are (-1: it is empty then, 0). BAD; FULL: 12." */
    private static void bookOfTwelve() {
        BarrowPlank x = plain(0, 0);
        due.is("it is empty then", x.book(-1), 0);
        for (int k = 1; k <= 12; k++) {
            due.is("BAD -2", x.book(-2), BarrowPlank.BAD);
            due.is("BAD 10000", x.book(10000), BarrowPlank.BAD);
            due.is("the BOOK's " + k, x.book(k % 2 == 0 ? 9999 : 0), k);
            due.is("so many", x.count(2), k);
        }
        due.is("a 13th", x.book(0), BarrowPlank.FULL);
        due.is("a 13th, the most", x.book(9999), BarrowPlank.FULL);
        due.is("BAD ahead of FULL", x.book(10000), BarrowPlank.BAD);
        due.is("BAD ahead of FULL, below", x.book(-2), BarrowPlank.BAD);
        due.is("12 still", x.count(2), 12);
        due.is("empty of 12", x.book(-1), 0);
        due.is("none", x.count(2), 0);
        due.is("the first again", x.book(42), 1);
        due.is("as told", x.looked(0, 1), -5);
    }

    /** "the first k (from 0) such that his k-th ROUND from now does not take the k-th (-5: none)" */
    private static void lookedFromZero() {
        for (int wrong = 0; wrong <= 12; wrong++) {
            BarrowPlank x = Tapes.with("tire 1;shovel 1", 0, 0, 4);
            x.earth(999);
            due.is("an empty BOOK", x.looked(0, 5), -5);
            for (int k = 0; k < 12; k++) {
                int takes = k < 10 ? 45 : 65;
                x.book(k == wrong ? takes + (wrong % 2 == 0 ? 1 : -1) : k > wrong ? 0 : takes);
            }
            due.is("wrong from " + wrong, x.looked(0, 5), wrong == 12 ? -5 : wrong);
            due.is("with another LOAD", x.looked(0, 8), 0);
            x.round(0, 5);
            due.is("from now", x.looked(0, 5), Math.min(wrong, 9));
        }
        BarrowPlank x = plain(0, 0);
        x.earth(3);
        x.book(44);
        x.book(42);
        x.book(40);
        x.book(40);
        due.is("also when no EARTH is left", x.looked(0, 2), -5);
        due.is("LOAD 0", x.looked(0, 0), BarrowPlank.BAD);
        due.is("LOAD 21", x.looked(0, 21), BarrowPlank.BAD);
    }

    /** "ACTS of a man with x (ints, wrapping)" */
    private static void actsWrap() {
        int most = Integer.MAX_VALUE, least = Integer.MIN_VALUE;
        BarrowPlank x = acting(0, 9);
        due.is("lifts, the most", x.act(3, 0, most), least + 2);
        due.is("lifts, the least", x.act(3, 0, least), least + 3);
        due.is("goes, the least", x.act(3, 1, least), most - 5);
        due.is("tires, the most", x.act(3, 2, most), -14);
        due.is("tires, 30 bits", x.act(3, 2, 1 << 30), least - 12);
        x = acting(1, 9);
        due.is("FULL lifts, the most", x.act(3, 0, most), most * 3 + 3);
        due.is("FULL lifts, the least", x.act(3, 0, least), least + 3);
        due.is("FULL lifts, wrapping to a small one", x.act(3, 0, 1431655766), 2 + 3);
        x = acting(2, 3);
        due.is("WAITING goes, the least", x.act(3, 1, least), least);
        due.is("WAITING goes, the most", x.act(3, 1, most), -most);
        x = acting(3, 9);
        due.is("SLOW tires, the least", x.act(3, 2, least), -12 ^ 7);
        x = acting(4, 9);
        due.is("HEAPED tires, the least", x.act(3, 2, least), (most * 3 + 3 - 9) * 2 + 9);
        x = acting(5, 9);
        due.is("SPILT lifts, the most", x.act(3, 0, most), least + 2 ^ 3);
        due.is("SPILT lifts -3", x.act(3, 0, -3), 3);
        x = acting(6, 9);
        due.is("OFF goes, the least", x.act(3, 1, least), least + 3);
        due.is("OFF goes, wrapping and back", x.act(3, 1, least + 1), least + 4);
    }

    /** A man of a KIND with the number 3. */
    private static BarrowPlank acting(int kind, int v) {
        BarrowPlank x = new BarrowPlank();
        for (int k = 0; k < 3; k++) {
            x.man(0, 0, 1);
        }
        x.man(kind, v, 1);
        return x;
    }

    /** "THE TRACE: the numbers of the bodies that ran in the latest act(), as they began; the first 20 are kept." */
    private static void traceOfTheLatest() {
        // By KIND and ACT; no ACT runs more than 7 bodies, so that all of them are always kept.
        int[][][] bodies = {{{1}, {2, 1}, {3, 2, 1}}, {{11, 1}, {2, 11, 1}, {3, 2, 11, 1}},
            {{1}, {21, 2, 1}, {3, 21, 2, 1}}, {{1}, {2, 1}, {31, 3, 2, 1}},
            {{11, 1}, {2, 11, 1}, {41, 3, 2, 11, 1, 11, 1}}, {{51, 1}, {21, 2, 51, 1}, {3, 21, 2, 51, 1}},
            {{1}, {61, 2, 1}, {31, 3, 61, 2, 1}}};
        for (int kind = 0; kind < 7; kind++) {
            BarrowPlank x = acting(kind, 4);
            due.is("none ran yet", x.count(4), 0);
            due.is("no first yet", x.trace(0), BarrowPlank.NONE);
            for (int act = 2; act >= 0; act--) {
                int[] ran = bodies[kind][act];
                x.act(3, act, 100);
                due.is("how many ran", x.count(4), ran.length);
                for (int i = -1; i < 22; i++) {
                    int body = i >= 0 && i < ran.length ? ran[i] : BarrowPlank.NONE;
                    due.is("KIND " + kind + " act " + act + " body " + i, x.trace(i), body);
                }
            }
        }
        BarrowPlank x = acting(4, 4);
        x.act(3, 2, 1);
        x.man(9, 9, 9);
        x.image();
        x.round(3, 20);
        x.act(3, 1, 1);
        x.undo();
        due.is("the latest act()'s also behind undo()", x.count(4) * 100 + x.trace(0), 302);
        x.act(3, 3, 1);
        due.is("none behind no such act", x.count(4), 0);
    }

    /** "A man taken for a KIND k (0 .. 6), or one under that: his v. NONE: man, k; -6: he is of another KIND." */
    private static void asOneUnderThat() {
        String[] under = {"0", "01", "02", "03", "014", "025", "036"};
        for (int kind = 0; kind < 7; kind++) {
            for (int v = 0; v < 10; v += 9) {
                BarrowPlank x = acting(kind, v);
                for (int k = -1; k < 8; k++) {
                    boolean is = k >= 0 && under[kind].indexOf('0' + k) >= 0;
                    due.is("KIND " + kind + " as " + k, x.as(3, k), k < 0 || k > 6 ? -1 : is ? v : -6);
                }
                due.is("nobody", x.as(4, 0), BarrowPlank.NONE);
                due.is("man -1", x.as(-1, 0), BarrowPlank.NONE);
            }
        }
    }

    /** "THE IMAGE: all that there is (but THE IMAGE and THE TRACE)." */
    private static void imageOfAll() {
        BarrowPlank bare = new BarrowPlank();
        due.is("the image of a new object", bare.image(), 0);
        for (int k = 0; k < 4; k++) {
            bare.man(4, 9, 1);
        }
        for (int k = 0; k < 5; k++) {
            Tapes.read(bare, "tire 5");
        }
        for (int k = 0; k < 12; k++) {
            bare.book(7);
        }
        Tapes.put(bare, "x".repeat(100));
        for (int yard = 0; yard < 10; yard++) {
            bare.yard(yard, yard % 3, 9);
        }
        bare.round(0, 20);
        bare.round(1, 20);
        bare.round(2, 20);
        due.is("all is as new", bare.undo(), 0);
        due.holds("all is as new, seen", Probe.seen(bare).equals(Probe.seen(new BarrowPlank())));
        due.is("SITES from 0 on", Tapes.read(bare, "shovel 3"), 0);
        due.is("MEN from 0 on", bare.man(0, 0, 20), 0);
        due.is("his ROUND", bare.round(0, 1), 43);
        due.is("the BOOK from the first on", bare.book(43), 1);
        due.is("what is in it", bare.looked(0, 1), -5);
    }

    /** It holds the signs of THE TAPE and the rows of the BOOK, not only how many there are. */
    private static void imageOfTapeAndBook() {
        BarrowPlank x = plain(0, 0);
        Tapes.put(x, "tire 55");
        x.book(42);
        x.book(42);
        x.image();
        due.is("THE TAPE is a SITE", x.site(), 0);
        due.is("another one on it", Tapes.read(x, "shovel 66"), 1);
        x.book(-1);
        x.book(1);
        x.book(2);
        x.book(3);
        due.is("undo", x.undo(), 1);
        due.is("no SITE holds", x.told(4) * 100 + x.told(5), 102);
        due.is("the BOOK as it was", x.count(2), 2);
        due.is("its rows as they were", x.looked(0, 1), -5);
        due.is("THE TAPE as it was", x.count(3), 7);
        due.is("its signs as they were", x.site(), 0);
        due.is("tire by them", x.told(4), 55);
    }

    /** "All is as THE IMAGE": it stays, and undo() may come again; image() takes another one. */
    private static void undoAgainAndAgain() {
        BarrowPlank x = plain(0, 0);
        due.is("no image", x.undo(), BarrowPlank.STATE);
        due.is("one man", x.image(), 1);
        for (int again = 0; again < 3; again++) {
            x.man(1, again, 20);
            x.earth(again);
            x.round(0, 20);
            x.yard(again, 2, 9);
            due.is("undo", x.undo(), 1);
            due.is("EARTH", x.told(0), 100);
            due.is("ROUNDS", x.told(3), 0);
            due.is("no BOARD", x.at(again, 2), 0);
            due.is("the ROUND", x.run(0, 1, 20, SECONDS), 80);
        }
        due.is("undo of nothing", x.undo(), 1);
        x.man(2, 5, 20);
        due.is("two men", x.image(), 2);
        x.undo();
        due.is("the newer image", x.count(0), 2);
        due.is("the second man's ROUND", x.run(1, 1, 20, SECONDS), 85);
    }
}
