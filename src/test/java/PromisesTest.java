/** Each promise by itself: ordinary inputs, the edges that the document names, wrong inputs. */
public final class PromisesTest {
    private static final Due due = new Due();

    public static void main(String[] args) {
        newObject();
        feed();
        site();
        faults();
        yard();
        at();
        earth();
        told();
        man();
        of();
        round();
        roundOfEachKind();
        roundsOnTheGround();
        conditions();
        rest();
        run();
        by();
        full();
        boards();
        turns();
        worth();
        pave();
        odds();
        book();
        looked();
        act();
        trace();
        as();
        image();
        undo();
        count();
        due.end();
    }

    private static void fault(String text, int place) {
        due.is("fault of " + text, Tapes.read(new BarrowPlank(), text), -10 - place);
    }

    private static void newObject() {
        BarrowPlank x = new BarrowPlank();
        for (int what = 0; what < 5; what++) {
            due.is("new count " + what, x.count(what), 0);
        }
        int[] told = {100, 0, 0, 0, 1, 2};
        for (int what = 0; what < told.length; what++) {
            due.is("new told " + what, x.told(what), told[what]);
        }
        for (int yard = 0; yard < 10; yard++) {
            for (int what = 0; what < 3; what++) {
                due.is("new at " + yard + " " + what, x.at(yard, what), 0);
            }
        }
        due.is("new undo", x.undo(), BarrowPlank.STATE);
        due.is("new trace", x.trace(0), BarrowPlank.NONE);
        due.is("NO", BarrowPlank.NO, Long.MIN_VALUE);
    }

    private static void feed() {
        BarrowPlank x = new BarrowPlank();
        due.is("feed -1", x.feed(-1), BarrowPlank.BAD);
        due.is("feed 128", x.feed(128), BarrowPlank.BAD);
        due.is("feed 0", x.feed(0), 1);
        due.is("feed 127", x.feed(127), 2);
        for (int k = 3; k <= 100; k++) {
            due.is("feed as " + k, x.feed('t'), k);
        }
        due.is("feed 101st", x.feed('t'), BarrowPlank.FULL);
        due.is("feed bad to a full tape", x.feed(128), BarrowPlank.BAD);
        due.is("signs", x.count(3), 100);
        due.is("site of a 0 sign", x.site(), -10);
        due.is("signs behind it", x.count(3), 0);
    }

    private static void site() {
        BarrowPlank x = Tapes.with("tire 7;shovel 0");
        due.is("tape behind a site", x.count(3), 0);
        due.is("tire", x.told(4), 7);
        due.is("shovel", x.told(5), 0);
        due.is("a fault", Tapes.read(x, "tire 8;shovel 3;"), -26);
        due.is("tire of the one that held", x.told(4), 7);
        due.is("tape behind a fault", x.count(3), 0);
        due.is("second", Tapes.read(x, "tire 2;tire 5"), 1);
        due.is("the last tire", x.told(4), 5);
        due.is("shovel without", x.told(5), 2);
        due.is("third", Tapes.read(x, "shovel 99;shovel 4"), 2);
        due.is("the last shovel", x.told(5), 4);
        due.is("tire without", x.told(4), 1);
        due.is("fourth", Tapes.read(x, "pace 1 y=0"), 3);
        due.is("fifth", Tapes.read(x, "pace 2 y=0"), 4);
        due.is("sixth", Tapes.read(x, "tire 9"), BarrowPlank.FULL);
        due.is("tape stays", x.count(3), 6);
        due.is("sites", x.count(1), 5);
        x.man(0, 0, 20);
        due.is("the fifth holds", x.run(0, 1, 1, 1), 2 + 40 + 4);
    }

    private static void faults() {
        fault("", 0);
        fault("x", 0);
        fault(";", 0);
        fault(" tire 1", 0);
        fault("pace", 4);
        fault("pace  1", 5);
        fault("pane 1", 2);
        fault("eager", 2);
        fault("s", 1);
        fault("sx", 1);
        fault("spell", 2);
        fault("shopping", 3);
        fault("tyre", 1);
        fault("tire", 4);
        fault("tires 1", 4);
        fault("tire ", 5);
        fault("tire x", 5);
        fault("tire 00", 6);
        fault("tire 01", 6);
        fault("tire 100", 7);
        fault("tire 1 y=1", 6);
        fault("shovel 1 y=1", 8);
        fault("tire 1;", 7);
        fault("tire 1;;", 7);
        fault("tire 1; tire 1", 7);
        fault("pace 1", 6);
        fault("pace 1;", 6);
        fault("pace 1 ", 7);
        fault("pace 1 z=1", 7);
        fault("pace 1 y", 8);
        fault("pace 1 y!1", 8);
        fault("pace 1 y=", 9);
        fault("pace 1 y==1", 9);
        fault("pace 1 y=01", 10);
        fault("pace 1 y=123", 11);
        fault("pace 1 y=1)", 10);
        fault("pace 1 (y=1", 11);
        fault("pace 1 (y=1;", 11);
        fault("pace 1 ()", 8);
        fault("pace 1 (y=1)2", 12);
        fault("pace 1 y=1&", 11);
        fault("pace 1 y=1&&s=1", 11);
        fault("pace 1 y=1|", 11);
        fault("pace 1 y=1 |s=1", 10);
        fault("pace 1 !", 8);
        fault("pace 1 !!!!!!y=1", 12);
        fault("pace 1 ((((((y=1))))))", 12);
        fault("pace 1 !(!(!(y=1)))", 12);
        fault("pace 1 !!!!!y=1;pace 1 (!!!!!y=1)", 28);
        due.is("five open", Tapes.read(new BarrowPlank(), "pace 1 !!!!!y=1&((((!y=1))))|!(!(!y=1))"), 0);
        due.is("a ! ends with its F", Tapes.read(new BarrowPlank(), "ease 1 !!!!!y=1&!!!!!y=2|!!!!!y=3"), 0);
        String nine = "tire 1;tire 1;tire 1;tire 1;tire 1;tire 1;tire 1;tire 1;tire 1;";
        due.is("ten clauses", Tapes.read(new BarrowPlank(), nine + "tire 1"), 0);
        fault(nine + "tire 1;", 69);
        fault(nine + "tire 1;tire 1", 69);
        String longest = "pace 1 " + "y=1|".repeat(23);
        fault(longest, 99);
        due.is("99 signs and more", Tapes.read(new BarrowPlank(), longest.substring(0, 98) + ";"), -10 - 99);
        due.is("100 signs", Tapes.read(new BarrowPlank(), "pace 12 y=10|" + "y=1|".repeat(21) + "y=9"), 0);
        fault("pace 12 " + "y=1|".repeat(23), 100);
    }

    private static void yard() {
        BarrowPlank x = new BarrowPlank();
        due.is("soft", x.yard(9, 0, 9), 0);
        due.is("slope", x.yard(9, 1, 8), 0);
        due.is("board", x.yard(9, 2, 7), 0);
        due.is("soft was", x.yard(9, 0, 0), 9);
        due.is("slope was", x.yard(9, 1, 0), 8);
        due.is("board was", x.yard(9, 2, 0), 7);
        due.is("yard -1", x.yard(-1, 0, 0), BarrowPlank.NONE);
        due.is("yard 10", x.yard(10, 0, 0), BarrowPlank.NONE);
        due.is("what -1", x.yard(0, -1, 0), BarrowPlank.NONE);
        due.is("what 3", x.yard(0, 3, 0), BarrowPlank.NONE);
        due.is("n -1", x.yard(0, 0, -1), BarrowPlank.BAD);
        due.is("n 10", x.yard(0, 0, 10), BarrowPlank.BAD);
        due.is("none ahead of bad", x.yard(10, 0, 10), BarrowPlank.NONE);
        due.is("refusals change nothing", x.at(0, 0), 0);
    }

    private static void at() {
        BarrowPlank x = new BarrowPlank();
        x.yard(0, 0, 1);
        x.yard(0, 1, 2);
        x.yard(0, 2, 3);
        due.is("soft", x.at(0, 0), 1);
        due.is("slope", x.at(0, 1), 2);
        due.is("board", x.at(0, 2), 3);
        due.is("other yard", x.at(1, 0), 0);
        due.is("at -1", x.at(-1, 0), BarrowPlank.NONE);
        due.is("at 10", x.at(10, 0), BarrowPlank.NONE);
        due.is("at what -1", x.at(0, -1), BarrowPlank.NONE);
        due.is("at what 3", x.at(0, 3), BarrowPlank.NONE);
    }

    private static void earth() {
        BarrowPlank x = new BarrowPlank();
        due.is("earth 999", x.earth(999), 100);
        due.is("earth 0", x.earth(0), 999);
        due.is("earth -1", x.earth(-1), BarrowPlank.BAD);
        due.is("earth 1000", x.earth(1000), BarrowPlank.BAD);
        due.is("earth told", x.told(0), 0);
    }

    private static void told() {
        BarrowPlank x = Tapes.with("tire 3;shovel 1;spill 2 y=4");
        x.man(0, 0, 5);
        x.round(0, 6);
        int[] told = {94, 4, 46, 1, 3, 1};
        for (int what = 0; what < told.length; what++) {
            due.is("told " + what, x.told(what), told[what]);
        }
        due.is("told -1", x.told(-1), BarrowPlank.NONE);
        due.is("told 6", x.told(6), BarrowPlank.NONE);
    }

    private static void man() {
        BarrowPlank x = new BarrowPlank();
        due.is("kind -1", x.man(-1, 0, 1), BarrowPlank.NONE);
        due.is("kind 7", x.man(7, 10, 0), BarrowPlank.NONE);
        due.is("v -1", x.man(0, -1, 1), BarrowPlank.BAD);
        due.is("v 10", x.man(0, 10, 1), BarrowPlank.BAD);
        due.is("strong 0", x.man(0, 0, 0), BarrowPlank.BAD);
        due.is("strong 21", x.man(0, 0, 21), BarrowPlank.BAD);
        due.is("man 0", x.man(0, 0, 1), 0);
        due.is("man 1", x.man(6, 9, 20), 1);
        due.is("man 2", x.man(5, 1, 2), 2);
        due.is("man 3", x.man(4, 3, 4), 3);
        due.is("man 4", x.man(0, 0, 1), BarrowPlank.FULL);
        due.is("none ahead of full", x.man(7, 0, 1), BarrowPlank.NONE);
        due.is("bad ahead of full", x.man(0, 0, 21), BarrowPlank.BAD);
        due.is("men", x.count(0), 4);
    }

    private static void of() {
        BarrowPlank x = Tapes.with("tire 6");
        for (int kind = 0; kind < 7; kind++) {
            BarrowPlank y = new BarrowPlank();
            y.man(kind, kind + 1, kind + 2);
            due.is("kind", y.of(0, 0), kind);
            due.is("v", y.of(0, 1), kind + 1);
            due.is("strong", y.of(0, 2), kind + 2);
            due.is("tired", y.of(0, 3), 0);
        }
        x.man(0, 0, 1);
        x.round(0, 2);
        due.is("tired behind a round", x.of(0, 3), 6);
        due.is("of what 4", x.of(0, 4), BarrowPlank.NONE);
        due.is("of what -1", x.of(0, -1), BarrowPlank.NONE);
        due.is("of nobody", x.of(1, 0), BarrowPlank.NONE);
        due.is("of man -1", x.of(-1, 0), BarrowPlank.NONE);
    }

    private static void round() {
        BarrowPlank x = new BarrowPlank();
        due.is("nobody", x.round(0, 0), BarrowPlank.NONE);
        x.man(0, 0, 10);
        due.is("load 0", x.round(0, 0), BarrowPlank.BAD);
        due.is("load 21", x.round(0, 21), BarrowPlank.BAD);
        due.is("man -1", x.round(-1, 1), BarrowPlank.NONE);
        due.is("load 20", x.round(0, 20), 80);
        due.is("tired, above strong", x.of(0, 3), 1);
        due.is("load 10", x.round(0, 10), 60);
        due.is("rested, not above strong", x.of(0, 3), 0);
        due.is("0 at least", x.round(0, 1) + 1000 * x.of(0, 3), 42);
        due.is("earth", x.told(0), 69);
        due.is("over", x.told(1), 31);
        due.is("second", x.told(2), 182);
        due.is("rounds", x.told(3), 3);
        x.earth(3);
        due.is("no more than earth", x.round(0, 20), 46);
        due.is("no earth", x.round(0, 20), 40);
        due.is("over by 3", x.told(1), 34);
        due.is("no earth below 0", x.told(0), 0);

        // Beyond what an object is promised for, since no fewer calls get there.
        for (int k = x.told(3); k < 999; k++) {
            x.round(0, 1);
        }
        due.is("999", x.told(3), 999);
        due.is("there were 999", x.round(0, 1), BarrowPlank.STATE);
        due.is("bad ahead of state", x.round(0, 0), BarrowPlank.BAD);
        due.is("999 still", x.told(3), 999);

        BarrowPlank tired = Tapes.with("tire 99;shovel 0");
        tired.man(0, 0, 1);
        tired.round(0, 2);
        due.is("99", tired.of(0, 3), 99);
        due.is("tired by ten, cut", tired.round(0, 2), 40 + 20 * 9);
        due.is("99 at most", tired.of(0, 3), 99);
        BarrowPlank ten = Tapes.with("tire 10;shovel 0");
        ten.man(0, 0, 1);
        ten.round(0, 2);
        due.is("ten tired", ten.run(0, 1, 1, 1), 60);
        ten.rest(0, 1);
        due.is("nine tired", ten.run(0, 1, 1, 1), 40);
    }

    private static void roundOfEachKind() {
        BarrowPlank full = new BarrowPlank();
        full.man(1, 4, 20);
        due.is("FULL fills v more", full.run(0, 1, 10, 0), 14);
        due.is("FULL takes longer", full.run(0, 1, 10, 1), 68);
        due.is("FULL 20 at most", full.run(0, 1, 18, 0), 20);

        BarrowPlank waiting = new BarrowPlank();
        waiting.man(2, 7, 20);
        due.is("WAITING waits", waiting.run(0, 1, 10, 1), 67);
        due.is("WAITING fills no more", waiting.run(0, 1, 10, 0), 10);

        BarrowPlank slow = Tapes.with("tire 3");
        slow.man(3, 3, 1);
        slow.yard(0, 2, 1);
        slow.round(0, 2);
        due.is("SLOW not above v", slow.run(0, 1, 1, 1), 42);
        slow.round(0, 2);
        due.is("SLOW above v", slow.run(0, 1, 1, 1), 62);

        BarrowPlank heaped = new BarrowPlank();
        heaped.man(4, 3, 20);
        heaped.yard(2, 2, 1);
        heaped.yard(3, 2, 9);
        due.is("HEAPED fills v more, loses v on each board", heaped.run(0, 1, 10, 0), 7);
        due.is("HEAPED loses", heaped.run(0, 1, 10, 3), 6);
        due.is("HEAPED no more than there is", heaped.run(0, 1, 1, 3), 4);

        BarrowPlank spilt = new BarrowPlank();
        spilt.man(5, 9, 20);
        due.is("SPILT waits", spilt.run(0, 1, 10, 1), 69);
        due.is("SPILT loses 1", spilt.run(0, 1, 10, 3), 1);
        due.is("SPILT over", spilt.run(0, 1, 10, 0), 9);

        BarrowPlank off = Tapes.with("tire 6;spill 1 b=4");
        off.man(6, 5, 1);
        off.yard(1, 2, 5);
        due.is("OFF on a board as wide as v", off.run(0, 1, 10, 1), 60);
        off.yard(2, 2, 4);
        due.is("OFF goes off there and back", off.run(0, 1, 10, 1), 100);
        due.is("OFF loses half of the rest", off.run(0, 1, 10, 0), 5);
        due.is("OFF half is cut", off.run(0, 1, 10, 3), 5);
        off.round(0, 2);
        due.is("OFF is SLOW", off.run(0, 1, 10, 1), 120);
    }

    private static void roundsOnTheGround() {
        BarrowPlank x = Tapes.with("pace 2 s>0;pace 3 u=9;ease 1 b>1;ease 9 y=8;spill 2 l>8;shovel 1");
        x.man(0, 0, 20);
        x.yard(0, 1, 9);
        x.yard(1, 2, 2);
        x.yard(7, 0, 9);
        // There and back: a slope 3, a board 1 less, soft 2, YARD 8 1 instead of 2.
        due.is("first", x.round(0, 10), 10 + 40 + 6 - 2 + 4 - 2);
        due.is("lost", x.told(0) * 100 + x.told(1), 9008);
        x.round(0, 10);
        due.is("not softer yet", x.at(0, 0), 0);
        x.round(0, 10);
        for (int yard = 0; yard < 10; yard++) {
            due.is("softer " + yard, x.at(yard, 0), yard == 1 ? 0 : yard == 7 ? 9 : 1);
        }
        due.is("softer takes longer", x.round(0, 10), 10 + 40 + 6 - 2 + 4 * 8 - 2);
        x.yard(1, 2, 0);
        x.round(0, 1);
        x.round(0, 1);
        due.is("softer again", x.at(0, 0), 2);
        due.is("without its board", x.at(1, 0), 1);
        x.yard(3, 0, 0);
        x.yard(3, 1, 9);
        due.is("as it is now", x.run(0, 1, 1, 1), 1 + 40 + 12 + 4 * 8 - 2);
        due.is("another site", Tapes.read(x, "shovel 1"), 1);
        due.is("as it says now", x.round(0, 1), 41);
        x.yard(4, 0, 8);
        x.round(0, 1);
        x.round(0, 1);
        due.is("9", x.at(4, 0), 9);
        due.is("9 at most", x.at(7, 0), 9);
    }

    private static void conditions() {
        // Yard 4 is SOFT 3, SLOPE 5, has a BOARD 7 wide; the man is of KIND 2 and has 6 in the barrow.
        String[] hold = {"y=4", "y>3&y<5", "s=3", "u=5", "b=7", "l=6", "k=2&y=4", "!y<4&!y>4",
            "y=4|y=4&y=5", "(y=4|y=4)&b=7", "!(y<4|y>4)", "b>0&l<7|l>99", "!!s>2&!!!u<5&b=7"};
        String[] fail = {"y=5&s=3", "s>3", "u<5&u>0", "b>7", "l>6", "k=1", "!k=2", "y>9", "y=4&s=4|b=8",
            "(y=4|y=5)&s=9", "!(y=4|s=0|u=0)", "l=20"};
        for (String one : hold) {
            due.is(one, lostWith(one), 1);
        }
        for (String one : fail) {
            due.is(one, lostWith(one), 0);
        }
        // A barrow is empty on the way back: of 20 yards ten hold l>0, ten l=0.
        due.is("l on both ways", secondsWith("pace 3 l>0"), 40 + 30);
        due.is("l=0", secondsWith("pace 4 l=0"), 40 + 40);
        due.is("what a yard takes stands ahead of what is lost there", secondsWith("spill 6 y=4;pace 1 l=6"), 45);
        due.is("at least 1", secondsWith("ease 9 y=4"), 38);
        due.is("all together", secondsWith("ease 9 y=4;pace 8 y=4"), 38);
        due.is("all together, above", secondsWith("ease 9 y=4;pace 8 y=4;pace 3 s=3"), 44);
    }

    private static int lostWith(String condition) {
        BarrowPlank x = Tapes.with("spill 1 (" + condition + ")&y=4");
        placeOne(x);
        return x.run(0, 1, 6, 3);
    }

    private static int secondsWith(String site) {
        BarrowPlank x = Tapes.with("shovel 0;" + site);
        placeOne(x);
        return x.run(0, 1, 6, 1);
    }

    private static void placeOne(BarrowPlank x) {
        x.yard(4, 0, 3);
        x.yard(4, 1, 5);
        x.yard(4, 2, 7);
        x.man(2, 0, 20);
    }

    private static void rest() {
        BarrowPlank x = Tapes.with("tire 50");
        x.man(0, 0, 1);
        x.round(0, 20);
        due.is("rest 20", x.rest(0, 20), 30);
        due.is("rest 0", x.rest(0, 0), 30);
        due.is("rest 99", x.rest(0, 99), 0);
        due.is("rest -1", x.rest(0, -1), BarrowPlank.BAD);
        due.is("rest 100", x.rest(0, 100), BarrowPlank.BAD);
        due.is("rest of nobody", x.rest(1, 100), BarrowPlank.NONE);
        due.is("tired", x.of(0, 3), 0);
    }

    private static void run() {
        BarrowPlank x = Tapes.with("pace 1 s>0;tire 5;spill 1 y=0");
        x.man(0, 0, 9);
        due.is("no rounds", x.run(0, 0, 10, 1), 0);
        due.is("over", x.run(0, 4, 10, 0), 36);
        // The third is tired by 10, the fourth goes on softer ground, too.
        due.is("seconds", x.run(0, 4, 10, 1), 60 + 60 + 80 + 100);
        due.is("tired", x.run(0, 4, 10, 2), 20);
        due.is("lost", x.run(0, 4, 10, 3), 4);
        due.is("without earth", x.run(0, 30, 20, 0), 95);
        due.is("goes on without earth", x.run(0, 30, 20, 2), 0);
        due.is("changes nothing", x.told(0) + x.told(2) + x.told(3) + x.of(0, 3) + x.at(0, 0), 100);
        due.is("nobody", x.run(1, 31, 0, 0), -1001);
        due.is("what 4", x.run(0, 31, 0, 4), -1001);
        due.is("what -1", x.run(0, 1, 1, -1), -1001);
        due.is("n 31", x.run(0, 31, 1, 0), -1002);
        due.is("n -1", x.run(0, -1, 1, 0), -1002);
        due.is("load 0", x.run(0, 1, 0, 0), -1002);
        due.is("load 21", x.run(0, 1, 21, 0), -1002);
        x.round(0, 10);
        x.round(0, 10);
        due.is("goes on from the rounds that went", x.run(0, 2, 10, 1), 80 + 100);
        due.is("tired from now", x.run(0, 0, 10, 2), 10);
    }

    private static void by() {
        BarrowPlank x = new BarrowPlank();
        x.man(0, 0, 20);
        due.is("just in time", x.by(0, 10, 120), 20);
        due.is("a second short", x.by(0, 10, 119), 10);
        due.is("none", x.by(0, 10, 0), 0);
        due.is("all", x.by(0, 10, 9999), 100);
        x.earth(999);
        due.is("200 rounds at most", x.by(0, 1, 9999), 200);
        due.is("199 rounds", x.by(0, 1, 200 * 42 - 1), 199);
        due.is("changes nothing", x.told(0) + x.told(1) + x.told(2) + x.told(3), 999);
        due.is("nobody", x.by(1, 0, -1), BarrowPlank.NONE);
        due.is("load 0", x.by(0, 0, 1), BarrowPlank.BAD);
        due.is("load 21", x.by(0, 21, 1), BarrowPlank.BAD);
        due.is("t -1", x.by(0, 1, -1), BarrowPlank.BAD);
        due.is("t 10000", x.by(0, 1, 10000), BarrowPlank.BAD);
        x.round(0, 1);
        due.is("from now on", x.by(0, 10, 120), 20);
    }

    private static void full() {
        BarrowPlank x = new BarrowPlank();
        x.man(0, 0, 20);
        due.is("no time: the least", x.full(0, 0), 1);
        due.is("one round", x.full(0, 60), 10);
        due.is("two rounds of five", x.full(0, 100), 20);
        due.is("all of it, by the least", x.full(0, 9999), 1);
        x.earth(7);
        due.is("no more than earth", x.full(0, 79), 7);
        due.is("nobody", x.full(1, -1), BarrowPlank.NONE);
        due.is("t -1", x.full(0, -1), BarrowPlank.BAD);
        due.is("t 10000", x.full(0, 10000), BarrowPlank.BAD);
    }

    private static void boards() {
        BarrowPlank x = Tapes.with("pace 4 y=2&b=0;pace 5 y=7&b=0;pace 5 y=9&b<3;pace 1 y=0&b=4;shovel 0");
        x.man(0, 0, 20);
        x.man(6, 9, 20);
        due.is("one", x.boards(0, 10, 1, 2, 0), 1 << 7);
        due.is("saves", x.boards(0, 10, 1, 2, 1), 10);
        due.is("the least of two", x.boards(0, 10, 1, 3, 0), 1 << 7);
        due.is("two", x.boards(0, 10, 2, 3, 0), 1 << 7 | 1 << 9);
        due.is("two save", x.boards(0, 10, 2, 3, 1), 20);
        due.is("three", x.boards(0, 10, 3, 2, 0), 1 | 1 << 2 | 1 << 7);
        due.is("three, not yard 0", x.boards(0, 10, 3, 4, 0), 1 << 2 | 1 << 7 | 1 << 9);
        due.is("below 0", x.boards(1, 10, 1, 2, 1), 10 - 40);
        due.is("changes nothing", x.at(7, 2) + x.at(0, 2), 0);
        for (int yard = 0; yard < 8; yard++) {
            x.yard(yard, 2, 1);
        }
        due.is("only yards that have none", x.boards(0, 10, 2, 2, 0), 1 << 8 | 1 << 9);
        due.is("too few", x.boards(0, 10, 3, 2, 0), -5);
        due.is("too few to save", x.boards(0, 10, 3, 2, 1), -5);
        due.is("none is worse than none", x.boards(0, 10, 1, 1, 0), 1 << 8);
        due.is("nobody", x.boards(2, 0, 0, 0, 0), -1001);
        due.is("what -1", x.boards(0, 0, 0, 0, -1), -1001);
        due.is("what 2", x.boards(0, 0, 0, 0, 2), -1001);
        due.is("load 0", x.boards(0, 0, 1, 1, 0), -1002);
        due.is("load 21", x.boards(0, 21, 1, 1, 0), -1002);
        due.is("n 0", x.boards(0, 1, 0, 1, 0), -1002);
        due.is("n 4", x.boards(0, 1, 4, 1, 0), -1002);
        due.is("width 0", x.boards(0, 1, 1, 0, 0), -1002);
        due.is("width 10", x.boards(0, 1, 1, 10, 0), -1002);
    }

    private static void turns() {
        BarrowPlank x = new BarrowPlank();
        x.man(0, 0, 20);
        x.man(2, 5, 20);
        // 0 fills till 20, is back at 60; 1 fills 20 to 45, is back at 85; 0 60 to 120; 1 85 to 150.
        due.is("none", x.turns(0, 1, 10, 59), 0);
        due.is("one", x.turns(0, 1, 10, 60), 10);
        due.is("one still", x.turns(0, 1, 10, 84), 10);
        due.is("both", x.turns(0, 1, 10, 85), 20);
        due.is("both still", x.turns(0, 1, 10, 119), 20);
        due.is("three", x.turns(0, 1, 10, 120), 30);
        due.is("four", x.turns(0, 1, 10, 150), 40);
        // 1 fills till 25, is back at 65; 0 fills 25 to 45, is back at 85.
        due.is("the other first", x.turns(1, 0, 10, 84), 10);
        due.is("the other first, both", x.turns(1, 0, 10, 85), 20);
        due.is("till earth ends", x.turns(0, 1, 20, 999), 100);

        BarrowPlank slow = Tapes.with("shovel 50");
        slow.man(0, 0, 20);
        slow.man(1, 0, 20);
        // Each fills 50 and walks 40: 0 is back at 90, 1 at 140, 0 (waits for the shovel till 100) at 190.
        due.is("waits for the shovel", slow.turns(0, 1, 1, 189), 2);
        due.is("waited for the shovel", slow.turns(0, 1, 1, 190), 3);

        BarrowPlank late = Tapes.with("pace 30 k=2");
        late.man(2, 0, 20);
        late.man(0, 0, 20);
        // 0 would take 660 seconds; though 1 could be back in time, it ends with the first that does not.
        due.is("till the first that does not", late.turns(0, 1, 10, 600), 0);
        due.is("one before it", late.turns(1, 0, 10, 600), 10);

        due.is("changes nothing", x.told(0) + x.told(2), 100);
        due.is("one man", x.turns(0, 0, 1, 1), BarrowPlank.BAD);
        due.is("nobody", x.turns(2, 2, 0, -1), BarrowPlank.NONE);
        due.is("no other", x.turns(0, 2, 0, -1), BarrowPlank.NONE);
        due.is("load 0", x.turns(0, 1, 0, 1), BarrowPlank.BAD);
        due.is("load 21", x.turns(0, 1, 21, 1), BarrowPlank.BAD);
        due.is("t -1", x.turns(0, 1, 1, -1), BarrowPlank.BAD);
        due.is("t 1000", x.turns(0, 1, 1, 1000), BarrowPlank.BAD);
    }

    private static void worth() {
        BarrowPlank x = Tapes.with("pace 1 s>0");
        x.man(0, 0, 20);
        due.is("alone", x.worth(0, 180), 30);
        x.man(0, 0, 20);
        // The first one's three rounds of 60 make it soft, so that the second one takes 80.
        due.is("the second", x.worth(1, 180), 20);
        due.is("the first", x.worth(0, 180), 20);
        x.earth(40);
        due.is("with little earth", x.worth(1, 180), 10);
        x.earth(30);
        due.is("with less", x.worth(0, 180), 0);
        due.is("no time", x.worth(0, 0), 0);
        due.is("t 999", x.worth(0, 999), 0);
        due.is("changes nothing", x.told(0) + x.at(0, 0), 30);
        due.is("nobody", x.worth(2, -1), -1001);
        due.is("t -1", x.worth(0, -1), -1002);
        due.is("t 1000", x.worth(0, 1000), -1002);

        BarrowPlank off = Tapes.with("spill 20 k=6;pace 3 s>0");
        off.man(6, 0, 20);
        off.man(0, 0, 20);
        // With the ground made soft two rounds of 120 instead of three of 60.
        due.is("worth less than nothing", off.worth(0, 240), 20 - 30);
    }

    private static void pave() {
        BarrowPlank x = Tapes.with("pace 2 s>4;pace 3 u>4;ease 9 s>0&y=6");
        x.man(0, 0, 20);
        due.is("all the same", x.pave(0, 10), 0);
        x.yard(3, 0, 5);
        due.is("soft", x.pave(0, 10), 3);
        x.yard(5, 1, 5);
        due.is("slope", x.pave(0, 10), 5);
        x.yard(4, 1, 9);
        due.is("the least", x.pave(0, 10), 4);
        x.yard(8, 0, 9);
        x.yard(8, 1, 9);
        due.is("both", x.pave(0, 10), 8);
        due.is("changes nothing", x.at(8, 0) * 10 + x.at(8, 1), 99);
        due.is("nobody", x.pave(1, 0), BarrowPlank.NONE);
        due.is("load 0", x.pave(0, 0), BarrowPlank.BAD);
        due.is("load 21", x.pave(0, 21), BarrowPlank.BAD);

        BarrowPlank worse = Tapes.with("ease 1 s>0");
        worse.man(0, 0, 20);
        worse.yard(0, 0, 1);
        worse.yard(1, 0, 1);
        due.is("not where it would be slower", worse.pave(0, 10), 2);
    }

    private static void odds() {
        BarrowPlank x = Tapes.with("spill 20 y=0;spill 1 l=20&y<3;spill 0 y=9");
        x.man(0, 0, 20);
        x.man(4, 2, 20);
        x.man(5, 8, 20);
        x.man(6, 9, 20);
        // As if it were still full, yards 0, 1, 2; in YARD 9 nothing is lost by spill 0.
        due.is("above", x.odds(0, 20, 4, 0), 27);
        due.is("below", x.odds(0, 20, 4, 1), 125);
        due.is("yard 0 alone", x.odds(0, 19, 3, 0), 7);
        due.is("yard 0 alone, below", x.odds(0, 19, 3, 1), 10);
        due.is("never", x.odds(0, 20, 0, 0), 1);
        due.is("never, below", x.odds(0, 20, 0, 1), 1);
        due.is("always", x.odds(0, 20, 10, 0), 0);
        due.is("always, below", x.odds(0, 20, 10, 1), 1);
        due.is("SPILT", x.odds(2, 1, 5, 1), 4);
        x.yard(5, 2, 1);
        x.yard(6, 2, 1);
        due.is("HEAPED fills more, spills on boards", x.odds(1, 18, 5, 1), 32);
        due.is("HEAPED of v 0 below", x.odds(1, 17, 5, 1), 8);
        due.is("OFF's half aside", x.odds(3, 1, 5, 1), 2);
        x.earth(19);
        due.is("no more than earth", x.odds(0, 20, 5, 1), 2);
        x.earth(0);
        due.is("nothing to lose", x.odds(0, 20, 10, 0), 1);
        due.is("nothing to lose, below", x.odds(0, 20, 10, 1), 1);
        due.is("nobody", x.odds(4, 1, 1, 0), BarrowPlank.NO);
        due.is("load 0", x.odds(0, 0, 1, 0), BarrowPlank.NO);
        due.is("load 21", x.odds(0, 21, 1, 0), BarrowPlank.NO);
        due.is("p -1", x.odds(0, 1, -1, 0), BarrowPlank.NO);
        due.is("p 11", x.odds(0, 1, 11, 0), BarrowPlank.NO);
        due.is("part -1", x.odds(0, 1, 1, -1), BarrowPlank.NO);
        due.is("part 2", x.odds(0, 1, 1, 2), BarrowPlank.NO);
        BarrowPlank all = Tapes.with("spill 1 y<10");
        all.man(0, 0, 1);
        due.is("ten yards", all.odds(0, 1, 1, 0), 3486784401L);
        due.is("ten yards, below", all.odds(0, 1, 1, 1), 10000000000L);
    }

    private static void book() {
        BarrowPlank x = new BarrowPlank();
        due.is("empty", x.book(-1), 0);
        due.is("book -2", x.book(-2), BarrowPlank.BAD);
        due.is("book 10000", x.book(10000), BarrowPlank.BAD);
        due.is("book 0", x.book(0), 1);
        due.is("book 9999", x.book(9999), 2);
        for (int k = 3; k <= 12; k++) {
            due.is("book as " + k, x.book(k), k);
        }
        due.is("13th", x.book(1), BarrowPlank.FULL);
        due.is("bad ahead of full", x.book(10000), BarrowPlank.BAD);
        due.is("in it", x.count(2), 12);
        due.is("empty again", x.book(-1), 0);
        due.is("none in it", x.count(2), 0);
    }

    private static void looked() {
        BarrowPlank x = Tapes.with("pace 1 s>0");
        x.man(0, 0, 20);
        due.is("an empty book", x.looked(0, 10), -5);
        x.book(60);
        x.book(60);
        x.book(60);
        due.is("as told", x.looked(0, 10), -5);
        x.book(60);
        due.is("the fourth is softer", x.looked(0, 10), 3);
        due.is("another load", x.looked(0, 11), 0);
        due.is("changes nothing", x.told(3) + x.count(2), 4);
        x.round(0, 10);
        due.is("from now on", x.looked(0, 10), 2);
        due.is("nobody", x.looked(1, 0), BarrowPlank.NONE);
        due.is("load 0", x.looked(0, 0), BarrowPlank.BAD);
        due.is("load 21", x.looked(0, 21), BarrowPlank.BAD);
        x.book(-1);
        int[] day = {60, 60, 80, 80, 80, 100, 0, 0, 0, 0, 0, 0};
        BarrowPlank y = Tapes.with("pace 1 s=1|s=2;pace 1 s=2;pace 2 s>2");
        y.man(0, 0, 20);
        y.round(0, 10);
        for (int n : day) {
            y.book(n);
        }
        due.is("twelve", y.looked(0, 10), 6);
    }

    private static void bodiesAre(BarrowPlank x, int... bodies) {
        due.is("bodies", x.count(4), bodies.length);
        for (int k = 0; k < bodies.length; k++) {
            due.is("body " + k, x.trace(k), bodies[k]);
        }
        due.is("no body behind", x.trace(bodies.length), BarrowPlank.NONE);
    }

    private static BarrowPlank third(int kind, int v) {
        BarrowPlank x = new BarrowPlank();
        x.man(0, 0, 1);
        x.man(0, 0, 1);
        x.man(0, 0, 1);
        x.man(kind, v, 1);
        return x;
    }

    private static void act() {
        BarrowPlank x = third(0, 5);
        due.is("ROUND lifts", x.act(3, 0, 10), 13);
        bodiesAre(x, 1);
        due.is("ROUND goes", x.act(3, 1, 10), 8);
        bodiesAre(x, 2, 1);
        due.is("ROUND tires", x.act(3, 2, 10), 16);
        bodiesAre(x, 3, 2, 1);
        due.is("wraps", x.act(3, 0, Integer.MAX_VALUE), Integer.MIN_VALUE + 2);
        x = third(1, 5);
        due.is("FULL lifts", x.act(3, 0, 10), 33);
        bodiesAre(x, 11, 1);
        due.is("FULL goes", x.act(3, 1, 10), 28);
        bodiesAre(x, 2, 11, 1);
        due.is("FULL tires", x.act(3, 2, 10), 56);
        bodiesAre(x, 3, 2, 11, 1);
        x = third(2, 5);
        due.is("WAITING goes", x.act(3, 1, 10), -8);
        bodiesAre(x, 21, 2, 1);
        due.is("WAITING tires", x.act(3, 2, 10), -16);
        bodiesAre(x, 3, 21, 2, 1);
        x = third(3, 5);
        due.is("SLOW goes", x.act(3, 1, 10), 8);
        due.is("SLOW tires", x.act(3, 2, 10), 16 ^ 7);
        bodiesAre(x, 31, 3, 2, 1);
        x = third(4, 5);
        due.is("HEAPED tires", x.act(3, 2, 10), (9 * 3 + 3 - 5) * 2 + 9);
        bodiesAre(x, 41, 3, 2, 11, 1, 11, 1);
        due.is("HEAPED lifts", x.act(3, 0, 10), 33);
        bodiesAre(x, 11, 1);
        x = third(5, 5);
        due.is("SPILT lifts", x.act(3, 0, 10), 13 ^ 3);
        bodiesAre(x, 51, 1);
        due.is("SPILT goes", x.act(3, 1, 10), -((13 ^ 3) - 5));
        bodiesAre(x, 21, 2, 51, 1);
        due.is("SPILT tires", x.act(3, 2, 10), -((13 ^ 3) - 5) * 2);
        bodiesAre(x, 3, 21, 2, 51, 1);
        x = third(6, 5);
        due.is("OFF goes", x.act(3, 1, 10), 13);
        bodiesAre(x, 61, 2, 1);
        due.is("OFF tires", x.act(3, 2, 10), 26 ^ 7);
        bodiesAre(x, 31, 3, 61, 2, 1);
        due.is("act 3", x.act(3, 3, 10), 0);
        bodiesAre(x);
        x.act(3, 1, 10);
        due.is("act -1", x.act(3, -1, 10), 0);
        bodiesAre(x);
        x.act(3, 1, 10);
        due.is("act of nobody", x.act(4, 0, 10), 0);
        bodiesAre(x);
    }

    private static void trace() {
        BarrowPlank x = third(0, 1);
        due.is("none yet", x.trace(0), BarrowPlank.NONE);
        x.act(0, 1, 1);
        due.is("first", x.trace(0), 2);
        due.is("second", x.trace(1), 1);
        due.is("third", x.trace(2), BarrowPlank.NONE);
        due.is("trace -1", x.trace(-1), BarrowPlank.NONE);
        x.run(0, 1, 1, 0);
        x.man(9, 9, 9);
        due.is("stays till the next act", x.trace(0), 2);
    }

    private static void as() {
        int[] above = {-1, 0, 0, 0, 1, 2, 3};
        for (int kind = 0; kind < 7; kind++) {
            BarrowPlank x = third(kind, 7);
            for (int k = 0; k < 7; k++) {
                boolean under = k == kind || k == above[kind] || k == 0;
                due.is("as " + kind + " " + k, x.as(3, k), under ? 7 : -6);
            }
            due.is("as -1", x.as(3, -1), BarrowPlank.NONE);
            due.is("as 7", x.as(3, 7), BarrowPlank.NONE);
            due.is("as of nobody", x.as(4, 0), BarrowPlank.NONE);
        }
    }

    private static void image() {
        BarrowPlank x = new BarrowPlank();
        due.is("image of nobody", x.image(), 0);
        x.man(0, 0, 1);
        due.is("image of one", x.image(), 1);
        x.man(0, 0, 1);
        due.is("the latest image", x.undo(), 1);
    }

    private static void undo() {
        BarrowPlank x = Tapes.with("tire 3;shovel 1");
        x.man(4, 2, 5);
        x.yard(3, 0, 4);
        x.yard(3, 1, 5);
        x.yard(3, 2, 6);
        x.book(43);
        Tapes.put(x, "tire 8");
        x.round(0, 6);
        due.is("image", x.image(), 1);
        x.act(0, 2, 1);
        x.man(6, 1, 1);
        due.is("site", x.site(), 1);
        Tapes.put(x, "shovel 70");
        x.yard(3, 0, 0);
        x.yard(3, 1, 0);
        x.yard(3, 2, 0);
        x.book(2);
        x.earth(7);
        x.round(0, 20);
        x.round(0, 20);
        due.is("softer", x.at(0, 0), 1);
        for (int again = 0; again < 2; again++) {
            due.is("undo", x.undo(), 1);
            int[] told = {92, 6, 48, 1, 3, 1};
            for (int what = 0; what < told.length; what++) {
                due.is("told " + what + " as the image", x.told(what), told[what]);
            }
            due.is("yard", x.at(3, 0) * 100 + x.at(3, 1) * 10 + x.at(3, 2), 456);
            due.is("as hard as it was", x.at(0, 0), 0);
            due.is("tired", x.of(0, 3), 3);
            due.is("men", x.count(0), 1);
            due.is("nobody more", x.of(1, 0), BarrowPlank.NONE);
            due.is("sites", x.count(1), 1);
            due.is("book", x.count(2), 1);
            due.is("signs", x.count(3), 6);
            due.is("the trace stays", x.count(4), 7);
            due.is("the tape is as it was", x.site(), 1);
            due.is("tire of it", x.told(4), 8);
            due.is("the round is as it was", x.run(0, 1, 1, 1), 2 * 3 + 40);
            x.book(-1);
            x.book(5);
            due.is("another man", x.man(6, 9, 1), 1);
            due.is("off the board", x.run(1, 1, 1, 1), 2 + 40 + 40);
        }
        x.undo();
        due.is("another man yet", x.man(0, 9, 1), 1);
        due.is("on the board", x.run(1, 1, 1, 1), 1 + 40);
        due.is("the book is as it was", x.looked(1, 3), -5);
    }

    private static void count() {
        BarrowPlank x = Tapes.with("tire 3");
        x.man(0, 0, 1);
        x.man(0, 0, 1);
        x.book(1);
        x.book(1);
        x.book(1);
        Tapes.put(x, "tire");
        x.act(0, 2, 0);
        int[] count = {2, 1, 3, 4, 3};
        for (int what = 0; what < count.length; what++) {
            due.is("count " + what, x.count(what), count[what]);
        }
        due.is("count -1", x.count(-1), BarrowPlank.NONE);
        due.is("count 5", x.count(5), BarrowPlank.NONE);
    }
}
