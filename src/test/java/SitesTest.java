/** The sentences on THE TAPE and on SITES that name a bound: each just within it and just beyond. */
public final class SitesTest {
    private static final Due due = new Due();
    private static final String[] ASKING = {"pace", "ease", "spill"};
    private static final String[] PLAIN = {"tire", "shovel"};
    private static final String[] WHOLE = {"pace 1 !(y=1|s<2)&u>3", "ease 20 b=1&(l<10|!k>9)", "spill 0 ((y=0))",
        "tire 5", "shovel 99"};
    private static final String HUNDRED = "pace 12 y=10|" + "y=1|".repeat(21) + "y=9";

    public static void main(String[] args) {
        hundredSigns();
        signsToBeKept();
        tenClauses();
        oneClauseAtLeast();
        oneOrTwoDigits();
        oneBlank();
        fiveOpen();
        openTillItsEnd();
        sizeIfItEndsTooEarly();
        sizeOfHundredSigns();
        emptyThen();
        firstThatCannotGoOn();
        orderOfTests();
        testsOfEachNumber();
        closerThanOr();
        fiveSites();
        newestHolds();
        faultChangesNothingElse();
        lastHolds();
        together();
        due.end();
    }

    private static void reads(String text) {
        due.is(text, Tapes.read(new BarrowPlank(), text), 0);
    }

    private static void faults(String text, int place) {
        due.is("FAULT of " + text, Tapes.read(new BarrowPlank(), text), -10 - place);
    }

    /** "THE TAPE (bytes, 100 at most)" */
    private static void hundredSigns() {
        BarrowPlank x = new BarrowPlank();
        for (int k = 0; k < 100; k++) {
            due.is("sign " + k, x.feed(HUNDRED.charAt(k)), k + 1);
        }
        due.is("the 101st", x.feed('9'), BarrowPlank.FULL);
        due.is("and again", x.feed('|'), BarrowPlank.FULL);
        due.is("a hundred still", x.count(3), 100);
        due.is("they are a SITE", x.site(), 0);
        due.is("THE TAPE is empty then", x.count(3), 0);
        due.is("and takes signs again", x.feed('p'), 1);
        x.man(0, 0, 20);
        due.is("all of it holds", x.run(0, 1, 1, 1), 2 + 40 + 12 * 2 * 2);
        reads(HUNDRED.substring(0, 11) + HUNDRED.substring(12));
    }

    /** "A sign (0 .. 127) comes behind THE TAPE's" */
    private static void signsToBeKept() {
        for (int sign = 0; sign < 128; sign++) {
            BarrowPlank x = new BarrowPlank();
            Tapes.put(x, "tire ");
            due.is("sign " + sign, x.feed(sign), 6);
            boolean digit = sign >= '0' && sign <= '9';
            due.is("a SITE by " + sign, x.site(), digit ? 0 : -15);
            due.is("tire by " + sign, x.told(4), digit ? sign - '0' : 1);
        }
        BarrowPlank x = new BarrowPlank();
        Tapes.put(x, "tire 1");
        int[] bad = {-1, 128, 256 + '2', '2' - 256, 65536 + '2', Integer.MIN_VALUE, Integer.MAX_VALUE};
        for (int sign : bad) {
            due.is("no sign " + sign, x.feed(sign), BarrowPlank.BAD);
            due.is("it does not come", x.count(3), 6);
        }
        due.is("without them a SITE", x.site(), 0);
    }

    /** "CLAUSES, 10 at most, with ; between" */
    private static void tenClauses() {
        StringBuilder text = new StringBuilder("tire 1");
        for (int many = 1; many < 14; many++) {
            if (many > 10) {
                faults(text.toString(), 69);
            } else {
                reads(text.toString());
                faults(text + ";", many == 10 ? 69 : text.length() + 1);
            }
            text.append(";tire ").append((many + 1) % 10);
        }
        String tests = "pace 1 y=1";
        reads(tests + (";" + tests).repeat(8));
        String ten = "tire 1;".repeat(8) + "pace 1 y=1;ease 1 !(y=1)";
        reads(ten);
        faults(ten + ";tire 1", ten.length());
    }

    /** Nothing is not a CLAUSE: it ends too early, at its size. */
    private static void oneClauseAtLeast() {
        faults("", 0);
        faults(";", 0);
        faults(";tire 1", 0);
        faults("tire 1;", 7);
        faults("tire 1;;tire 1", 7);
    }

    /** "n 1 or 2 digits, no 0 ahead of another"; in a TEST "a number likewise" */
    private static void oneOrTwoDigits() {
        for (String word : ASKING) {
            int n = word.length() + 1;
            String[] right = {"0", "1", "9", "10", "90", "99"};
            for (String one : right) {
                reads(word + " " + one + " y=1");
                reads(word + " 1 y=" + one);
                reads(word + " 1 y=" + one + "&y<" + one + "|(y>" + one + ")");
            }
            String[] wrong = {"00", "01", "09"};
            for (String one : wrong) {
                faults(word + " " + one + " y=1", n + 1);
                faults(word + " 1 y=" + one, n + 5);
            }
            faults(word + " 100 y=1", n + 2);
            faults(word + " 999 y=1", n + 2);
            faults(word + "  y=1", n);
            faults(word + " -1 y=1", n);
            faults(word + " 1 y=100", n + 6);
            faults(word + " 1 y=-1", n + 4);
        }
        for (String word : PLAIN) {
            int n = word.length() + 1;
            BarrowPlank x = new BarrowPlank();
            int[] right = {0, 9, 10, 99};
            for (int k = 0; k < right.length; k++) {
                due.is(word + " " + right[k], Tapes.read(x, word + " " + right[k]), k);
                due.is(word + " told", x.told(word.equals("tire") ? 4 : 5), right[k]);
            }
            faults(word + " 00", n + 1);
            faults(word + " 01", n + 1);
            faults(word + " 100", n + 2);
            faults(word + " /", n);
            faults(word + " :", n);
            faults(word + " 1/", n + 1);
            faults(word + " 1:", n + 1);
        }
    }

    /** "one blank ahead of each part behind the word" */
    private static void oneBlank() {
        for (String word : ASKING) {
            int n = word.length();
            faults(word + "1 y=1", n);
            faults(word + "  1 y=1", n + 1);
            faults(word + " 1y=1", n + 2);
            faults(word + " 1  y=1", n + 3);
            faults(word + " 1 y =1", n + 4);
            faults(word + " 1 y= 1", n + 5);
            faults(word + " 1 y=1 ", n + 6);
            faults(word + " 1 y=1 ;tire 1", n + 6);
            faults(" " + word + " 1 y=1", 0);
        }
        for (String word : PLAIN) {
            int n = word.length();
            faults(word + "1", n);
            faults(word + "  1", n + 1);
            faults(word + " 1 ", n + 2);
            faults(word + " 1; " + word + " 1", n + 3);
        }
    }

    /** "At most 5 of ! and ( are open": each row of five, and each of six, of which the sixth is the FAULT */
    private static void fiveOpen() {
        for (int row = 0; row < 64; row++) {
            StringBuilder opened = new StringBuilder();
            StringBuilder closed = new StringBuilder();
            for (int k = 0; k < 5; k++) {
                boolean not = (row >> k & 1) == 0;
                opened.append(not ? '!' : '(');
                closed.append(not ? "" : ")");
            }
            reads("ease 1 " + opened + "y=1" + closed);
            reads("ease 1 " + opened + "y=1&s=1|u=1" + closed);
            char sixth = row < 32 ? '!' : '(';
            faults("ease 1 " + opened + sixth + "y=1" + (row < 32 ? "" : ")") + closed, 12);
            // Behind y=1 each ! at the end of the row is closed, so that one more may be open if there was one.
            String more = "ease 1 " + opened + "y=1&" + sixth + "y=1" + (row < 32 ? "" : ")") + closed;
            if (opened.charAt(4) == '(') {
                faults(more, 16);
            } else {
                reads(more);
            }
        }
    }

    /** "(a ( till its ) , a ! till its F ends)" */
    private static void openTillItsEnd() {
        reads("pace 1 !!!!!y=1|!!!!!y=2&!!!!!y=3");
        reads("pace 1 (((((y=1)))))&(((((y=2)))))");
        reads("pace 1 ((((y=1&!s=1&!u=1|!b=1))))");
        reads("pace 1 (!!!!y=1|!!!!y=2)&!!!!!y=3");
        reads("pace 1 !(!(!y=1))&!(!(!y=2))");
        reads("pace 1 !!!!(y=1|y=2)&!!!!(y=1|y=2)");
        faults("pace 1 !!!!(!y=1)", 12);
        faults("pace 1 (((((y=1|!y=2)))))", 16);
        faults("pace 1 (((((y=1)|(y=2)&((y=3)))))", 24);
        reads("pace 1 (((((y=1)|(y=2)&(y=3)))))");
        faults("pace 1 !(!(!(y=1)))", 12);
        faults("pace 1 !(!(!y=1)|!!!!y=2)", 20);
        reads("pace 1 !(!(!y=1)|!!!y=2)");
        reads("pace 1 !!!!!y=1;ease 1 !!!!!y=1;spill 1 (((((y=1)))))");
    }

    /** "(the size, if it ends too early)" */
    private static void sizeIfItEndsTooEarly() {
        for (String one : WHOLE) {
            reads(one);
            for (int size = 0; size < one.length(); size++) {
                String begun = one.substring(0, size);
                if (!isWhole(begun)) {
                    faults(begun, size);
                    faults("tire 1;" + begun, 7 + size);
                } else {
                    reads(begun);
                }
            }
        }
    }

    /** It may be that it ends too early with the last of 100 signs. */
    private static void sizeOfHundredSigns() {
        for (String one : WHOLE) {
            for (int size = 0; size < one.length(); size++) {
                String begun = clauseOf(100 - size) + one.substring(0, size);
                due.is("its size", begun.length(), 100);
                due.is("FAULT of " + begun, Tapes.read(new BarrowPlank(), begun),
                    isWhole(one.substring(0, size)) ? 0 : -110);
            }
            reads(clauseOf(100 - one.length()) + one);
        }
    }

    /** A CLAUSE with its ; that has so many signs, 11 or more. */
    private static String clauseOf(int size) {
        StringBuilder text = new StringBuilder("pace 1 ");
        int longer = (size - 11) % 4;
        for (int k = 0; k < (size - 11) / 4; k++) {
            text.append("y=1|");
        }
        text.append("y=1;");
        for (int k = 0; k < longer; k++) {
            int at = k == 0 ? text.lastIndexOf("y=1;") : text.indexOf(k == 1 ? "y=1|" : "1 y");
            text.insert(k < 2 ? at + 3 : at + 1, '2');
        }
        return text.toString();
    }

    /** THE TAPE "is empty then": what stood there before is no part of what comes. */
    private static void emptyThen() {
        for (String one : WHOLE) {
            for (int size = 0; size < one.length(); size++) {
                String begun = one.substring(0, size);
                BarrowPlank x = new BarrowPlank();
                due.is("a longer FAULT", Tapes.read(x, one + "#"), -10 - one.length());
                due.is("FAULT of " + begun + " behind it", Tapes.read(x, begun), isWhole(begun) ? 0 : -10 - size);
                due.is("with nothing on it", x.site(), -10);
            }
        }
    }

    /** Of the texts above, those that end early and still are SITES. */
    private static boolean isWhole(String text) {
        int opened = text.length() - text.replace("(", "").length();
        int closed = text.length() - text.replace(")", "").length();
        boolean asks = text.matches("(pace|ease|spill) \\d+ .*[0-9)]");
        return opened == closed && (asks || text.matches("(tire|shovel) \\d+"));
    }

    /** "FAULT: the place of the first byte with which no SITE can go on", also if there are more of them behind it */
    private static void firstThatCannotGoOn() {
        String whole = "spill 12 !(y=1|k<20)&l>3;tire 1;shovel 20";
        reads(whole);
        for (int at = 0; at < whole.length(); at++) {
            String ahead = whole.substring(0, at);
            faults(ahead + "#" + whole.substring(at), at);
            faults(ahead + "#" + whole.substring(at + 1), at);
            faults(ahead + (char) 0, at);
            faults(ahead + (char) 127 + "##", at);
            faults(ahead + "\n" + whole, at);
        }
        faults("Pace 1 y=1", 0);
        faults("pAce 1 y=1", 1);
        faults("pace 1 Y=1", 7);
        faults("pacs 1 y=1", 3);
        faults("eace 1 y=1", 2);
        faults("spovel 1", 2);
        faults("shill 1 y=1", 2);
        faults("spil 1 y=1", 4);
        faults("spilll 1 y=1", 5);
        faults("shove 1", 5);
        faults("tir 1", 3);
        faults("tire 1,tire 1", 6);
        faults("tire 1 y=1", 6);
        faults("shovel 1 y=1", 8);
        faults("pace 1", 6);
        faults("pace 1;tire 1", 6);
        faults("pace 1 1=y", 7);
        faults("pace 1 =1", 7);
        faults("pace 1 <9", 7);
        faults("pace 1 >0", 7);
        faults("pace 1 !=1", 8);
        faults("pace 1 y=1&=2", 11);
        faults("pace 1 y=1|(<2)", 12);
        faults("pace 1 y=s", 9);
        faults("pace 1 y<=1", 9);
        faults("pace 1 y1", 8);
        faults("pace 1 yy=1", 8);
        faults("pace 1 y=1y=2", 10);
        faults("pace 1 y=1!s=2", 10);
        faults("pace 1 y=1(s=2)", 10);
        faults("pace 1 (y=1)(s=2)", 12);
        faults("pace 1 (y=1)!s=2", 12);
        faults("pace 1 (y=1))", 12);
        faults("pace 1 )", 7);
        faults("pace 1 (y=1&)", 12);
        faults("pace 1 &y=1", 7);
        faults("pace 1 y=1&|s=1", 11);
        faults("pace 1 !&y=1", 8);
        faults("pace 1 !;tire 1", 8);
    }

    /** "one of < = >": each just below, at, and above a number */
    private static void orderOfTests() {
        String[] asked = {"y", "s", "u", "b", "l", "k"};
        int[] is = {4, 3, 5, 7, 6, 2};
        for (int k = 0; k < asked.length; k++) {
            for (int n = is[k] - 1; n <= is[k] + 1; n++) {
                due.is(asked[k] + "<" + n, lostBy(asked[k] + "<" + n), is[k] < n ? 1 : 0);
                due.is(asked[k] + "=" + n, lostBy(asked[k] + "=" + n), is[k] == n ? 1 : 0);
                due.is(asked[k] + ">" + n, lostBy(asked[k] + ">" + n), is[k] > n ? 1 : 0);
            }
            due.is(asked[k] + "<99", lostBy(asked[k] + "<99"), 1);
            due.is(asked[k] + "<0", lostBy(asked[k] + "<0"), 0);
            due.is(asked[k] + ">0", lostBy(asked[k] + ">0"), 1);
            due.is(asked[k] + "=0", lostBy(asked[k] + "=0"), 0);
        }
    }

    /** In YARD 4, SOFT 3, SLOPE 5, its BOARD 7 wide, a man of KIND 2 with 6 in the barrow loses 1, or nothing. */
    private static int lostBy(String condition) {
        BarrowPlank x = Tapes.with("spill 1 y=4&(" + condition + ")", 2, 0, 20);
        x.yard(4, 0, 3);
        x.yard(4, 1, 5);
        x.yard(4, 2, 7);
        return x.run(0, 1, 6, 3);
    }

    /** Each YARD, width ("0: none"), KIND, and amount in the barrow is met by its own number alone. */
    private static void testsOfEachNumber() {
        for (int n = 0; n < 10; n++) {
            BarrowPlank x = Tapes.with("shovel 0;pace 3 b=" + n, 0, 0, 20);
            x.man(0, 0, 20);
            for (int yard = 0; yard < 10; yard++) {
                x.yard(yard, 2, yard);
            }
            due.is("b=" + n, x.run(0, 1, 1, 1), 46);
            due.is("s=" + n, Tapes.read(x, "shovel 0;pace 5 s=" + n) + x.run(0, 1, 1, 1), n == 0 ? 141 : 41);
            due.is("y=" + n, Tapes.read(x, "shovel 0;pace 7 y=" + n) + x.run(0, 1, 1, 1), 2 + 54);
        }
        for (int kind = 0; kind < 7; kind++) {
            for (int other = 0; other < 8; other++) {
                BarrowPlank x = Tapes.with("shovel 0;spill 1 k=" + other + "&y=0", kind, 1, 20);
                int own = kind == 5 ? 1 : 0;
                due.is("k=" + other + " of " + kind, x.run(0, 1, 5, 3), own + (kind == other ? 1 : 0));
            }
        }
        for (int load = 1; load < 21; load++) {
            BarrowPlank x = Tapes.with("spill 1 l=" + load + "&y=9", 0, 0, 20);
            for (int came = 1; came < 21; came++) {
                due.is("l=" + load + " with " + came, x.run(0, 1, came, 3), came == load ? 1 : 0);
            }
        }
    }

    /** "E: T, or T|E. T: F, or F&T. F: !F, (E), or a TEST": ! is closest, then &, then | */
    private static void closerThanOr() {
        String yes = "y=4", no = "y=5";
        for (int row = 0; row < 8; row++) {
            boolean a = (row & 1) == 1, b = (row & 2) == 2, c = (row & 4) == 4;
            String ta = a ? yes : no, tb = b ? yes : no, tc = c ? yes : no;
            is(ta + "|" + tb + "&" + tc, a || b && c);
            is(ta + "&" + tb + "|" + tc, a && b || c);
            is("(" + ta + "|" + tb + ")&" + tc, (a || b) && c);
            is(ta + "&(" + tb + "|" + tc + ")", a && (b || c));
            is("!" + ta + "&" + tb + "|" + tc, !a && b || c);
            is("!(" + ta + "&" + tb + ")|" + tc, !(a && b) || c);
            is("!!" + ta + "|!" + tb + "&!!!" + tc, a || !b && !c);
            is("!(!(" + ta + "|" + tb + ")&!" + tc + ")", !(!(a || b) && !c));
            is(ta + "|" + tb + "|" + tc, a || b || c);
            is(ta + "&" + tb + "&" + tc, a && b && c);
        }
    }

    private static void is(String condition, boolean holds) {
        due.is(condition, lostBy(condition), holds ? 1 : 0);
    }

    /** "SITES are numbered from 0 on, 5 at most"; "FULL (THE TAPE stays)" */
    private static void fiveSites() {
        BarrowPlank x = new BarrowPlank();
        for (int k = 0; k < 5; k++) {
            due.is("SITES so far", x.count(1), k);
            due.is("a FAULT counts for none", Tapes.read(x, "tire 1" + k + ";"), -18);
            due.is("SITE " + k, Tapes.read(x, "tire 2" + k), k);
            due.is("THE TAPE is empty", x.count(3), 0);
        }
        due.is("with nothing on THE TAPE", x.site(), BarrowPlank.FULL);
        Tapes.put(x, "tire 3");
        due.is("a sixth", x.site(), BarrowPlank.FULL);
        due.is("THE TAPE stays", x.count(3), 6);
        due.is("five SITES", x.count(1), 5);
        due.is("the fifth holds", x.told(4), 24);
        due.is("THE TAPE goes on", x.feed(';'), 7);
        due.is("one that is no SITE either", x.site(), BarrowPlank.FULL);
        due.is("THE TAPE stays then, too", x.count(3), 7);
    }

    /** "the newest one holds; without one there are no CLAUSES" */
    private static void newestHolds() {
        BarrowPlank x = new BarrowPlank();
        x.man(0, 0, 1);
        x.yard(3, 0, 9);
        due.is("without one", x.run(0, 1, 2, 1) * 100 + x.run(0, 1, 2, 3) * 10 + x.run(0, 1, 2, 2), 4401);
        Tapes.read(x, "pace 5 y=1;spill 1 y=2;tire 6;shovel 0");
        due.is("the first", x.run(0, 1, 2, 1) * 100 + x.run(0, 1, 2, 3) * 10 + x.run(0, 1, 2, 2), 5016);
        Tapes.read(x, "ease 1 y=1");
        due.is("the second alone", x.run(0, 1, 2, 1) * 100 + x.run(0, 1, 2, 3) * 10 + x.run(0, 1, 2, 2), 4201);
        due.is("a ROUND by the second", x.round(0, 2), 42);
        Tapes.read(x, "pace 1 y=1;spill 2 y=2");
        due.is("a ROUND by the third", x.round(0, 2), 46);
        due.is("OVER by both", x.told(1), 2);
    }

    /** "-10 less the FAULT (the one that held holds)"; THE TAPE "is empty then" */
    private static void faultChangesNothingElse() {
        BarrowPlank x = Tapes.with("tire 6;shovel 0;pace 5 y=1", 0, 0, 1);
        Tapes.put(x, "tire 9;shovel 9;ease 1 y=1;");
        due.is("the FAULT", x.site(), -10 - 27);
        due.is("tire of the one that held", x.told(4), 6);
        due.is("shovel of the one that held", x.told(5), 0);
        due.is("its CLAUSES hold", x.run(0, 1, 2, 1), 50);
        due.is("SITES", x.count(1), 1);
        due.is("THE TAPE is empty", x.count(3), 0);
        due.is("again, with nothing on it", x.site(), -10);
        due.is("the next SITE", Tapes.read(x, "tire 2"), 1);
        due.is("the largest FAULT", Tapes.read(x, "pace 12 " + "y=1|".repeat(23)), -110);
    }

    /** "Of tire (1 without), shovel (2) the last n holds." */
    private static void lastHolds() {
        BarrowPlank x = Tapes.with("tire 0;shovel 0");
        due.is("tire 0", x.told(4), 0);
        due.is("shovel 0", x.told(5), 0);
        Tapes.read(x, "tire 99;shovel 5;tire 3;shovel 98;tire 4");
        due.is("the last tire", x.told(4), 4);
        due.is("the last shovel", x.told(5), 98);
        Tapes.read(x, "pace 1 y=1");
        due.is("tire without", x.told(4), 1);
        due.is("shovel without", x.told(5), 2);
    }

    /** "the n of all pace whose E holds, less those of all ease, together"; "of all spill whose E holds, together" */
    private static void together() {
        BarrowPlank nine = Tapes.with("pace 9 y=0;".repeat(8) + "pace 9 y=0", 0, 0, 20);
        due.is("nine pace", nine.run(0, 1, 1, 1), 42 + 2 * 81);
        BarrowPlank x = Tapes.with("pace 5 y=3;ease 2 y>2;pace 1 s=0;ease 99 y=9;spill 3 y=3;spill 4 y<4", 0, 0, 20);
        // YARDS 0 .. 2 take 3, YARD 3 6, YARDS 4 .. 8 1, YARD 9 1; then each again on the way back.
        due.is("pace less ease", x.run(0, 1, 20, 1), 40 + 2 * (9 + 6 + 5 + 1));
        due.is("spill together", x.run(0, 1, 20, 3), 4 * 4 + 3);
        due.is("not in a YARD whose E does not hold", Tapes.with("spill 3 y>9", 0, 0, 20).run(0, 1, 20, 3), 0);
    }
}
