/** The sentences of 'Terms' on YARDS, men and a ROUND that name a bound: each just within it and just beyond. */
public final class TermsTest {
    private static final Due due = new Due();
    private static final int OVER = 0, SECONDS = 1, TIRED = 2, LOST = 3;

    public static void main(String[] args) {
        yardsAtFirst();
        whatWasAtFirst();
        menFourAtMost();
        loadOneToTwenty();
        twentyAtMost();
        noMoreThanEarth();
        shovelTimesThat();
        waitingAndSpiltTakeMore();
        oneAtLeast();
        tiredByTenCut();
        slowIfTiredIsAboveV();
        offIfBoardIsNarrower();
        heapedIfItHasABoard();
        spiltInYardV();
        noMoreThanThereIs();
        offLosesHalfOfTheRest();
        likewiseOnTheWayBack();
        tireMoreIfAboveStrong();
        tiredElseTheBound();
        softerByThree();
        softNineAtMost();
        restNoFewerThanNone();
        due.end();
    }

    private static void sets(BarrowPlank x, int yard, int what, int n, int was) {
        due.is("yard " + yard + " " + what + " " + n + " was", x.yard(yard, what, n), was);
        due.is("yard " + yard + " " + what + " is " + n, x.at(yard, what), n);
    }

    /** "SOFT (0 .. 9; 0 at first), has a SLOPE up (0 .. 9; 0 at first), a BOARD (1 .. 9) or none (0; at first)" */
    private static void yardsAtFirst() {
        for (int what = 0; what < 3; what++) {
            BarrowPlank x = new BarrowPlank();
            for (int yard = 0; yard < 10; yard++) {
                sets(x, yard, what, 1, 0);
                sets(x, yard, what, 9, 1);
                due.is("10 is too much", x.yard(yard, what, 10), BarrowPlank.BAD);
                due.is("-1 is too little", x.yard(yard, what, -1), BarrowPlank.BAD);
                sets(x, yard, what, 0, 9);
                sets(x, yard, what, yard, 0);
            }
            for (int yard = 0; yard < 10; yard++) {
                for (int other = 0; other < 3; other++) {
                    due.is("of its own alone", x.at(yard, other), other == what ? yard : 0);
                }
            }
        }
    }

    /** "EARTH at the heap (0 .. 999; 100 at first), OVER (0 at first), SECOND 0 at first"; "Nobody, no SITE." */
    private static void whatWasAtFirst() {
        BarrowPlank x = new BarrowPlank();
        due.is("OVER at first", x.told(1), 0);
        due.is("SECOND at first", x.told(2), 0);
        due.is("ROUNDS at first", x.told(3), 0);
        due.is("tire without a SITE", x.told(4), 1);
        due.is("shovel without a SITE", x.told(5), 2);
        due.is("MEN at first", x.count(0), 0);
        due.is("SITES at first", x.count(1), 0);
        due.is("EARTH at first", x.earth(1), 100);
        due.is("EARTH 1", x.earth(998), 1);
        due.is("EARTH 998", x.earth(999), 998);
        due.is("EARTH 1000", x.earth(1000), BarrowPlank.BAD);
        due.is("EARTH 999", x.earth(0), 999);
        due.is("EARTH -1", x.earth(-1), BarrowPlank.BAD);
        due.is("EARTH 0", x.told(0), 0);
    }

    /** "MEN are numbered from 0 on, 4 at most, each STRONG (1 .. 20), of a KIND"; "v (0 .. 9)"; "TIRED (0 at first)" */
    private static void menFourAtMost() {
        BarrowPlank x = new BarrowPlank();
        int[][] men = {{0, 0, 1}, {6, 9, 20}, {1, 1, 2}, {5, 8, 19}};
        for (int k = 0; k < men.length; k++) {
            due.is("nobody yet", x.of(k, 0), BarrowPlank.NONE);
            due.is("man " + k, x.man(men[k][0], men[k][1], men[k][2]), k);
            for (int what = 0; what < 3; what++) {
                due.is("of " + k + " " + what, x.of(k, what), men[k][what]);
            }
            due.is("TIRED at first", x.of(k, 3), 0);
        }
        due.is("a fifth", x.man(0, 0, 1), BarrowPlank.FULL);
        due.is("four still", x.count(0), 4);
        due.is("no fifth", x.of(4, 0), BarrowPlank.NONE);
    }

    /** "A ROUND of a man with a LOAD (1 .. 20)" */
    private static void loadOneToTwenty() {
        BarrowPlank x = Tapes.with("shovel 1", 0, 0, 20);
        due.is("LOAD 0", x.round(0, 0), BarrowPlank.BAD);
        due.is("LOAD 1", x.round(0, 1), 1 + 40);
        due.is("LOAD 20", x.round(0, 20), 20 + 40);
        due.is("LOAD 21", x.round(0, 21), BarrowPlank.BAD);
        due.is("EARTH is less by what came", x.told(0), 79);
        due.is("OVER by them", x.told(1), 21);
        due.is("SECOND by them", x.told(2), 101);
        due.is("ROUNDS by them", x.told(3), 2);
    }

    /** "in the barrow comes LOAD (FULL, HEAPED: v more), 20 at most" */
    private static void twentyAtMost() {
        for (int kind = 0; kind < 7; kind++) {
            boolean fills = kind == 1 || kind == 4;
            for (int v = 0; v < 10; v++) {
                BarrowPlank x = Tapes.with("tire 2;spill 99 l>20", kind, v, 20);
                x.earth(999);
                int[] loads = {1, 19 - v, 20 - v, 20};
                for (int load : loads) {
                    int came = fills ? Math.min(20, load + v) : load;
                    int then = x.told(0);
                    x.round(0, load);
                    due.is("came with " + kind + " " + v + " " + load, then - x.told(0), came);
                }
            }
        }
    }

    /** "no more than EARTH" */
    private static void noMoreThanEarth() {
        for (int earth = 0; earth < 23; earth++) {
            BarrowPlank x = Tapes.with("shovel 3", 0, 0, 20);
            x.man(1, 9, 20);
            x.earth(earth);
            due.is("seconds with EARTH " + earth, x.run(0, 1, 20, SECONDS), 40 + 3 * Math.min(earth, 20));
            due.is("OVER with EARTH " + earth, x.run(0, 1, 20, OVER), Math.min(earth, 20));
            due.is("OVER of FULL with EARTH " + earth, x.run(1, 1, 3, OVER), Math.min(earth, 12));
            due.is("a ROUND with EARTH " + earth, x.round(0, 11), 40 + 3 * Math.min(earth, 11));
            due.is("what is left of " + earth, x.told(0), Math.max(0, earth - 11));
        }
    }

    /** "it takes shovel times that, in seconds"; "shovel (2) the last n holds" */
    private static void shovelTimesThat() {
        int[] shovels = {0, 1, 9, 10, 99};
        for (int shovel : shovels) {
            BarrowPlank x = Tapes.with("shovel 7;shovel " + shovel, 0, 0, 20);
            due.is("shovel " + shovel, x.run(0, 1, 20, SECONDS), 40 + 20 * shovel);
            due.is("shovel is " + shovel, x.told(5), shovel);
        }
        due.is("shovel without", Tapes.with("tire 7", 0, 0, 20).run(0, 1, 20, SECONDS), 40 + 20 * 2);
    }

    /** "(WAITING, SPILT: v more)" */
    private static void waitingAndSpiltTakeMore() {
        for (int kind = 0; kind < 7; kind++) {
            for (int v = 0; v < 10; v += 9) {
                BarrowPlank x = Tapes.with("shovel 0", kind, v, 20);
                int more = kind == 2 || kind == 5 ? v : 0;
                due.is("KIND " + kind + " v " + v, x.run(0, 1, 20, SECONDS), 40 + more);
                x.earth(0);
                due.is("KIND " + kind + " v " + v + " without EARTH", x.run(0, 1, 20, SECONDS), 40 + more);
            }
        }
    }

    /** "Each takes 2 and SLOWER (1 at least), and TIRED by 10 (cut)": the least is ahead of what being TIRED adds */
    private static void oneAtLeast() {
        String[] sites = {"pace 0 y=3", "ease 0 y=3", "ease 1 y=3", "ease 2 y=3", "ease 3 y=3", "ease 99 y=3",
            "ease 99 y=3;pace 99 y=3", "ease 99 y=3;pace 97 y=3", "ease 99 y=3;pace 98 y=3", "pace 99 y=3;pace 99 y=3",
            "pace 1 y=3"};
        int[] more = {0, 0, -1, -1, -1, -1, 0, -1, -1, 198, 1};
        for (int k = 0; k < sites.length; k++) {
            BarrowPlank x = Tapes.with("shovel 0;tire 30;" + sites[k], 0, 0, 1);
            due.is(sites[k], x.round(0, 2), 2 * (20 + more[k]));
            due.is(sites[k] + " when TIRED by 30", x.round(0, 1), 2 * (20 + more[k]) + 20 * 3);
        }
    }

    private static BarrowPlank tired(int tired, int kind, int v) {
        BarrowPlank x = Tapes.with("shovel 0;tire 99", kind, v, 1);
        x.round(0, 2);
        due.is("made TIRED " + tired, x.rest(0, 99 - tired), tired);
        return x;
    }

    /** "TIRED by 10 (cut)" */
    private static void tiredByTenCut() {
        int[] some = {0, 1, 9, 10, 11, 19, 20, 89, 90, 98, 99};
        for (int tired : some) {
            due.is("TIRED " + tired, tired(tired, 0, 0).round(0, 1), 40 + 20 * (tired / 10));
        }
    }

    /** "SLOW, OFF: 1 more, if TIRED is above v" */
    private static void slowIfTiredIsAboveV() {
        for (int kind = 0; kind < 7; kind++) {
            for (int v = 0; v < 10; v += 3) {
                int waits = kind == 2 || kind == 5 ? v : 0;
                int slow = kind == 3 || kind == 6 ? 20 : 0;
                int above = (v + 1) / 10 * 20;
                due.is("TIRED as v " + v + " KIND " + kind, tired(v, kind, v).round(0, 1), 40 + waits);
                due.is("TIRED above v " + v + " KIND " + kind, tired(v + 1, kind, v).round(0, 1),
                    40 + waits + slow + above);
            }
        }
    }

    /** "OFF: 20 more, if it has a BOARD narrower than v" */
    private static void offIfBoardIsNarrower() {
        for (int kind = 0; kind < 7; kind++) {
            for (int v = 0; v < 10; v++) {
                for (int board = 0; board < 10; board++) {
                    BarrowPlank x = Tapes.with("shovel 0", kind, v, 20);
                    x.yard(board, 2, board);
                    int waits = kind == 2 || kind == 5 ? v : 0;
                    int off = kind == 6 && board > 0 && board < v ? 40 : 0;
                    due.is("KIND " + kind + " v " + v + " BOARD " + board, x.run(0, 1, 1, SECONDS), 40 + waits + off);
                }
            }
        }
    }

    /** "HEAPED: v more, if it has a BOARD" */
    private static void heapedIfItHasABoard() {
        for (int kind = 0; kind < 7; kind++) {
            for (int board = 0; board < 10; board++) {
                BarrowPlank x = Tapes.with("spill 2 y=6", kind, 1, 20);
                x.yard(6, 2, board);
                int more = kind == 4 && board > 0 ? 1 : kind == 5 ? 1 : 0;
                due.is("KIND " + kind + " BOARD " + board, x.run(0, 1, 10, LOST), 2 + more);
            }
        }
        BarrowPlank none = Tapes.with("tire 1", 4, 0, 20);
        none.yard(6, 2, 5);
        due.is("HEAPED with v 0", none.run(0, 1, 10, LOST), 0);
    }

    /** "SPILT: 1 more, if it is YARD v" */
    private static void spiltInYardV() {
        for (int v = 0; v < 10; v++) {
            BarrowPlank x = Tapes.with("spill 4 y=" + v + "&l=10;spill 2 y>" + v + "&l=5", 5, v, 20);
            // What is left behind YARD v is 5; the next one takes 2 of it, and then l is 3.
            due.is("SPILT v " + v, x.run(0, 1, 10, OVER), v == 9 ? 5 : 3);
        }
    }

    /** "but no more than there is" */
    private static void noMoreThanThereIs() {
        int[] lost = {0, 4, 5, 6, 99};
        for (int n : lost) {
            BarrowPlank x = Tapes.with("spill " + n + " y=2;spill 1 y=9", 0, 0, 20);
            due.is("lost of 5 by " + n, x.run(0, 1, 5, LOST), Math.min(5, n + 1));
            due.is("OVER of 5 by " + n, x.run(0, 1, 5, OVER), Math.max(0, 4 - n));
        }
        BarrowPlank heaped = Tapes.with("spill 3 y=2", 4, 9, 20);
        heaped.yard(2, 2, 1);
        due.is("HEAPED, just so much", heaped.run(0, 1, 3, LOST), 12);
        due.is("HEAPED, 1 less", heaped.run(0, 1, 2, LOST), 11);
        due.is("HEAPED, 1 is left", heaped.run(0, 1, 4, OVER), 1);
        BarrowPlank spilt = Tapes.with("spill 3 y=2", 5, 2, 20);
        due.is("SPILT, just so much", spilt.run(0, 1, 4, OVER), 0);
        due.is("SPILT, 1 less", spilt.run(0, 1, 3, LOST), 3);
        spilt.earth(0);
        due.is("nothing to lose", spilt.run(0, 1, 3, LOST), 0);
    }

    /** "then OFF loses the half (cut) of the rest, too, if it has a BOARD narrower than v" */
    private static void offLosesHalfOfTheRest() {
        for (int load = 1; load < 21; load++) {
            BarrowPlank x = Tapes.with("spill 2 y=5", 6, 4, 20);
            x.yard(5, 2, 4);
            int rest = Math.max(0, load - 2);
            due.is("as wide as v, LOAD " + load, x.run(0, 1, load, OVER), rest);
            x.yard(5, 2, 3);
            due.is("narrower, LOAD " + load, x.run(0, 1, load, OVER), rest - rest / 2);
            x.yard(9, 2, 1);
            int more = rest - rest / 2;
            due.is("twice, LOAD " + load, x.run(0, 1, load, OVER), more - more / 2);
        }
    }

    /** "he goes back through YARDS 9 .. 0 with nothing in the barrow: each takes its seconds likewise" */
    private static void likewiseOnTheWayBack() {
        due.is("l=0 on the way back", Tapes.with("shovel 0;pace 5 l=0", 0, 0, 20).run(0, 1, 1, SECONDS), 40 + 50);
        due.is("l<2 on both", Tapes.with("shovel 0;pace 5 l<2", 0, 0, 20).run(0, 1, 1, SECONDS), 40 + 100);
        due.is("l>0 on the way over", Tapes.with("shovel 0;pace 5 l>0", 0, 0, 20).run(0, 1, 1, SECONDS), 40 + 50);
        BarrowPlank x = Tapes.with("shovel 0;pace 5 l>0", 0, 0, 20);
        x.earth(0);
        due.is("l>0 without EARTH", x.run(0, 1, 1, SECONDS), 40);
        due.is("nothing is lost on the way back", Tapes.with("spill 1 l=0", 0, 0, 20).run(0, 1, 1, LOST), 0);
    }

    /** "his TIRED is tire more, if what came in the barrow is above STRONG, else 1 less"; "tire (1 without)" */
    private static void tireMoreIfAboveStrong() {
        for (int strong = 1; strong < 21; strong++) {
            BarrowPlank x = Tapes.with("tire 9;tire 30", 0, 0, strong);
            due.is("as STRONG " + strong, x.run(0, 1, strong, TIRED), 0);
            due.is("above STRONG " + strong, x.run(0, 1, strong + 1, TIRED), strong == 20 ? -1002 : 30);
            x.earth(strong);
            due.is("what came counts, not LOAD", x.run(0, 1, 20, TIRED), 0);
        }
        BarrowPlank full = Tapes.with("tire 30", 1, 5, 10);
        due.is("FULL not above", full.run(0, 1, 5, TIRED), 0);
        due.is("FULL above by v", full.run(0, 1, 6, TIRED), 30);
        due.is("20 is never above 20", Tapes.with("tire 30", 1, 9, 20).run(0, 1, 20, TIRED), 0);
        due.is("tire without", Tapes.with("shovel 1", 0, 0, 1).run(0, 1, 2, TIRED), 1);
        due.is("tire 0", Tapes.with("tire 0", 0, 0, 1).run(0, 1, 2, TIRED), 0);
        BarrowPlank rests = tired(5, 0, 0);
        due.is("1 less", rests.run(0, 1, 1, TIRED), 4);
        due.is("1 less without EARTH", rests.earth(0) * 10 + rests.run(0, 1, 20, TIRED), 984);
    }

    /** "(0 .. 99, else the bound)" */
    private static void tiredElseTheBound() {
        int[] tires = {0, 1, 2, 50, 98, 99};
        for (int tire : tires) {
            for (int tired = 0; tired < 100; tired += 7) {
                BarrowPlank x = tired(tired, 0, 0);
                due.is("another SITE", Tapes.read(x, "tire " + tire), 1);
                due.is(tired + " and " + tire, x.run(0, 1, 2, TIRED), Math.min(99, tired + tire));
            }
        }
        BarrowPlank x = tired(1, 0, 0);
        due.is("1 less is 0", x.run(0, 1, 1, TIRED), 0);
        due.is("0 at least", x.run(0, 2, 1, TIRED), 0);
        x.round(0, 1);
        x.round(0, 1);
        due.is("0 at least of a ROUND", x.of(0, 3), 0);
        x = tired(98, 0, 0);
        x.round(0, 2);
        due.is("99 at most of a ROUND", x.of(0, 3), 99);
        x.round(0, 2);
        due.is("99 still", x.of(0, 3), 99);
    }

    /** "if they are a multiple of 3 then, each YARD without a BOARD is 1 more SOFT" */
    private static void softerByThree() {
        BarrowPlank x = Tapes.with("shovel 0", 0, 0, 20);
        x.man(0, 0, 20);
        x.yard(0, 2, 1);
        x.yard(9, 2, 9);
        for (int rounds = 1; rounds < 14; rounds++) {
            x.round(rounds % 2, 1);
            due.is("ROUNDS that went", x.told(3), rounds);
            for (int yard = 0; yard < 10; yard++) {
                due.is("SOFT " + yard + " behind " + rounds, x.at(yard, 0), yard % 9 == 0 ? 0 : rounds / 3);
            }
        }
        x.yard(0, 2, 0);
        x.round(0, 1);
        due.is("behind 14", x.at(0, 0), 0);
        x.round(0, 1);
        due.is("behind 15 without its BOARD", x.at(0, 0), 1);
        due.is("SLOPE stays", x.at(0, 1), 0);
    }

    /** "(9 at most)" */
    private static void softNineAtMost() {
        BarrowPlank x = Tapes.with("shovel 0;pace 1 s>8", 0, 0, 20);
        for (int yard = 0; yard < 10; yard++) {
            x.yard(yard, 0, yard);
        }
        for (int k = 0; k < 3; k++) {
            due.is("one YARD of 9", x.round(0, 1), 42);
        }
        for (int yard = 0; yard < 10; yard++) {
            due.is("1 more, 9 at most", x.at(yard, 0), Math.min(9, yard + 1));
        }
        for (int k = 0; k < 30; k++) {
            x.round(0, 1);
        }
        for (int yard = 0; yard < 10; yard++) {
            due.is("9 in the end", x.at(yard, 0), 9);
        }
        due.is("ten YARDS of 9", x.round(0, 1), 60);
    }

    /** "TIRED is n (0 .. 99) less (0 at least)" */
    private static void restNoFewerThanNone() {
        BarrowPlank x = tired(50, 0, 0);
        due.is("none less", x.rest(0, 0), 50);
        due.is("all but 1", x.rest(0, 49), 1);
        due.is("more than there is", x.rest(0, 2), 0);
        due.is("0 at least", x.rest(0, 99), 0);
        x = tired(99, 0, 0);
        due.is("just so much", x.rest(0, 99), 0);
        x = tired(99, 0, 0);
        due.is("1 is left", x.rest(0, 98), 1);
    }
}
