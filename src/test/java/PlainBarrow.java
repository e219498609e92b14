import java.util.ArrayList;
import java.util.Arrays;
import java.util.List;
import java.util.function.Predicate;

/**
 * The document read a second time, in its plainest form and by other ways than the program's: tables instead of
 * classes of men, a sign by sign machine for FAULTS, conditions by cutting texts, nothing kept from round to round.
 */
final class PlainBarrow {
    private static final List<String> WORDS = List.of("pace", "ease", "spill", "tire", "shovel");
    private static final int[] ABOVE = {-1, 0, 0, 0, 1, 2, 3};

    private State s = new State();
    private State image = null;
    private List<Integer> bodies = new ArrayList<>();

    /** Of a round: what came, its filling, its seconds, what is over. */
    private record Gone(int came, int filling, int seconds, int over) { }

    private record Clause(String word, int n, Predicate<int[]> when) { }

    private static final class State {
        int[] soft = new int[10], slope = new int[10], board = new int[10];
        int earth = 100, over, second, rounds, sites;
        List<int[]> men = new ArrayList<>();
        List<Clause> site = List.of();
        StringBuilder tape = new StringBuilder();
        List<Integer> book = new ArrayList<>();

        State copy() {
            State c = new State();
            c.soft = soft.clone();
            c.slope = slope.clone();
            c.board = board.clone();
            c.earth = earth;
            c.over = over;
            c.second = second;
            c.rounds = rounds;
            c.sites = sites;
            for (int[] m : men) {
                c.men.add(m.clone());
            }
            c.site = site;
            c.tape = new StringBuilder(tape);
            c.book = new ArrayList<>(book);
            return c;
        }

        int last(String word, int without) {
            int n = without;
            for (Clause c : site) {
                n = c.word.equals(word) ? c.n : n;
            }
            return n;
        }

        int sum(String word, int yard, int in, int kind) {
            int[] facts = {yard, soft[yard], slope[yard], board[yard], in, kind};
            int n = 0;
            for (Clause c : site) {
                if (c.word.equals(word) && c.when.test(facts)) {
                    n += c.n;
                }
            }
            return n;
        }

        int came(int man, int load) {
            int[] m = men.get(man);
            int more = m[0] == 1 || m[0] == 4 ? m[1] : 0;
            return Math.min(earth, Math.min(20, load + more));
        }

        int seconds(int man, int yard, int in) {
            int[] m = men.get(man);
            int slower = sum("pace", yard, in, m[0]) - sum("ease", yard, in, m[0]);
            int t = Math.max(1, 2 + slower) + m[3] / 10;
            if ((m[0] == 3 || m[0] == 6) && m[3] > m[1]) {
                t++;
            }
            return off(man, yard) ? t + 20 : t;
        }

        boolean off(int man, int yard) {
            int[] m = men.get(man);
            return m[0] == 6 && board[yard] != 0 && board[yard] < m[1];
        }

        int lost(int man, int yard, int in) {
            int[] m = men.get(man);
            int n = sum("spill", yard, in, m[0]);
            n += m[0] == 4 && board[yard] != 0 ? m[1] : 0;
            n += m[0] == 5 && yard == m[1] ? 1 : 0;
            return Math.min(in, n);
        }

        Gone round(int man, int load) {
            int[] m = men.get(man);
            int came = came(man, load);
            int filling = came * last("shovel", 2) + (m[0] == 2 || m[0] == 5 ? m[1] : 0);
            int took = filling;
            int in = came;
            for (int y = 0; y < 10; y++) {
                took += seconds(man, y, in);
                in -= lost(man, y, in);
                if (off(man, y)) {
                    in -= in / 2;
                }
            }
            for (int y = 9; y >= 0; y--) {
                took += seconds(man, y, 0);
            }
            earth -= came;
            over += in;
            second += took;
            m[3] = Math.max(0, Math.min(99, came > m[2] ? m[3] + last("tire", 1) : m[3] - 1));
            rounds++;
            if (rounds % 3 == 0) {
                for (int y = 0; y < 10; y++) {
                    soft[y] = board[y] == 0 ? Math.min(9, soft[y] + 1) : soft[y];
                }
            }
            return new Gone(came, filling, took, in);
        }

        /** The state behind BY, whole rounds tried on a copy first. */
        State behindBy(int man, int load, int t) {
            State at = copy();
            for (int k = 0; k < 200; k++) {
                State next = at.copy();
                next.round(man, load);
                if (next.second - second > t) {
                    break;
                }
                at = next;
            }
            return at;
        }
    }

    // What can go on, sign by sign; -1: all of it is a SITE.
    static int fault(String text) {
        String word = "";
        String mode = "word";
        String open = "";
        int clauses = 1;
        boolean first = false;
        for (int k = 0; k < text.length(); k++) {
            char c = text.charAt(k);
            boolean digit = c >= '0' && c <= '9';
            boolean asks = List.of("pace", "ease", "spill").contains(word);
            switch (mode) {
                case "word":
                    if (c == ' ' && WORDS.contains(word)) {
                        mode = "n";
                    } else {
                        word += c;
                        String begun = word;
                        if (WORDS.stream().noneMatch(w -> w.startsWith(begun))) {
                            return k;
                        }
                    }
                    break;
                case "n":
                    if (!digit) {
                        return k;
                    }
                    first = c != '0';
                    mode = "n done";
                    break;
                case "n done":
                    if (digit && first) {
                        first = false;
                    } else if (c == ' ' && asks) {
                        mode = "F";
                    } else if (c == ';' && !asks && clauses < 10) {
                        clauses++;
                        word = "";
                        mode = "word";
                    } else {
                        return k;
                    }
                    break;
                case "F":
                    if ((c == '!' || c == '(') && open.length() < 5) {
                        open += c;
                    } else if (c != 0 && "ysublk".indexOf(c) >= 0) {
                        mode = "sign";
                    } else {
                        return k;
                    }
                    break;
                case "sign":
                    if (c != '<' && c != '=' && c != '>') {
                        return k;
                    }
                    mode = "number";
                    break;
                case "number":
                    if (!digit) {
                        return k;
                    }
                    first = c != '0';
                    mode = "F done";
                    break;
                default:
                    if (digit && first) {
                        first = false;
                        break;
                    }
                    first = false;
                    open = open.replaceAll("!+$", "");
                    if (c == '&' || c == '|') {
                        mode = "F";
                    } else if (c == ')' && open.endsWith("(")) {
                        open = open.substring(0, open.length() - 1);
                    } else if (c == ';' && open.isEmpty() && clauses < 10) {
                        clauses++;
                        word = "";
                        mode = "word";
                    } else {
                        return k;
                    }
                    break;
            }
        }
        boolean asks = List.of("pace", "ease", "spill").contains(word);
        boolean whole = mode.equals("n done") && !asks
            || mode.equals("F done") && open.replaceAll("!+$", "").isEmpty();
        return whole ? -1 : text.length();
    }

    private static Predicate<int[]> condition(String e) {
        for (char between : new char[] {'|', '&'}) {
            int depth = 0;
            for (int k = 0; k < e.length(); k++) {
                depth += e.charAt(k) == '(' ? 1 : e.charAt(k) == ')' ? -1 : 0;
                if (depth == 0 && e.charAt(k) == between) {
                    Predicate<int[]> a = condition(e.substring(0, k));
                    Predicate<int[]> b = condition(e.substring(k + 1));
                    return between == '|' ? a.or(b) : a.and(b);
                }
            }
        }
        if (e.charAt(0) == '!') {
            return condition(e.substring(1)).negate();
        }
        if (e.charAt(0) == '(') {
            return condition(e.substring(1, e.length() - 1));
        }
        int what = "ysublk".indexOf(e.charAt(0));
        int n = Integer.parseInt(e.substring(2));
        switch (e.charAt(1)) {
            case '<': return f -> f[what] < n;
            case '>': return f -> f[what] > n;
            default: return f -> f[what] == n;
        }
    }

    private static List<Clause> clauses(String text) {
        List<Clause> all = new ArrayList<>();
        for (String one : text.split(";")) {
            String[] part = one.split(" ");
            Predicate<int[]> when = part.length > 2 ? condition(part[2]) : f -> true;
            all.add(new Clause(part[0], Integer.parseInt(part[1]), when));
        }
        return all;
    }

    private boolean noMan(int man) {
        return man < 0 || man >= s.men.size();
    }

    private static boolean not(int n, int a, int b) {
        return n < a || n > b;
    }

    int feed(int sign) {
        if (not(sign, 0, 127)) return -2;
        if (s.tape.length() == 100) return -4;
        s.tape.append((char) sign);
        return s.tape.length();
    }

    int site() {
        if (s.sites == 5) return -4;
        String text = s.tape.toString();
        s.tape.setLength(0);
        int fault = fault(text);
        if (fault >= 0) return -10 - fault;
        s.site = clauses(text);
        return s.sites++;
    }

    private int[] row(State of, int what) {
        return what == 0 ? of.soft : what == 1 ? of.slope : of.board;
    }

    int yard(int yard, int what, int n) {
        if (not(yard, 0, 9) || not(what, 0, 2)) return -1;
        if (not(n, 0, 9)) return -2;
        int was = row(s, what)[yard];
        row(s, what)[yard] = n;
        return was;
    }

    int at(int yard, int what) {
        return not(yard, 0, 9) || not(what, 0, 2) ? -1 : row(s, what)[yard];
    }

    int earth(int n) {
        if (not(n, 0, 999)) return -2;
        int was = s.earth;
        s.earth = n;
        return was;
    }

    int told(int what) {
        if (not(what, 0, 5)) return -1;
        return new int[] {s.earth, s.over, s.second, s.rounds, s.last("tire", 1), s.last("shovel", 2)}[what];
    }

    int man(int kind, int v, int strong) {
        if (not(kind, 0, 6)) return -1;
        if (not(v, 0, 9) || not(strong, 1, 20)) return -2;
        if (s.men.size() == 4) return -4;
        s.men.add(new int[] {kind, v, strong, 0});
        return s.men.size() - 1;
    }

    int of(int man, int what) {
        return noMan(man) || not(what, 0, 3) ? -1 : s.men.get(man)[what];
    }

    int round(int man, int load) {
        if (noMan(man)) return -1;
        if (not(load, 1, 20)) return -2;
        if (s.rounds == 999) return -3;
        return s.round(man, load).seconds;
    }

    int rest(int man, int n) {
        if (noMan(man)) return -1;
        if (not(n, 0, 99)) return -2;
        int[] m = s.men.get(man);
        m[3] = Math.max(0, m[3] - n);
        return m[3];
    }

    int run(int man, int n, int load, int what) {
        if (noMan(man) || not(what, 0, 3)) return -1001;
        if (not(n, 0, 30) || not(load, 1, 20)) return -1002;
        State c = s.copy();
        int over = 0, seconds = 0, lost = 0;
        for (int k = 0; k < n; k++) {
            Gone g = c.round(man, load);
            over += g.over;
            seconds += g.seconds;
            lost += g.came - g.over;
        }
        return new int[] {over, seconds, c.men.get(man)[3], lost}[what];
    }

    int by(int man, int load, int t) {
        if (noMan(man)) return -1;
        if (not(load, 1, 20) || not(t, 0, 9999)) return -2;
        return s.behindBy(man, load, t).over - s.over;
    }

    int full(int man, int t) {
        if (noMan(man)) return -1;
        if (not(t, 0, 9999)) return -2;
        int best = 20;
        for (int load = 20; load >= 1; load--) {
            best = by(man, load, t) >= by(man, best, t) ? load : best;
        }
        return best;
    }

    int boards(int man, int load, int n, int width, int what) {
        if (noMan(man) || not(what, 0, 1)) return -1001;
        if (not(load, 1, 20) || not(n, 1, 3) || not(width, 1, 9)) return -1002;
        int bestSet = -5, fewest = Integer.MAX_VALUE;
        for (int set = 1023; set > 0; set--) {
            State c = s.copy();
            boolean can = Integer.bitCount(set) == n;
            for (int y = 0; y < 10; y++) {
                if ((set & 1 << y) != 0) {
                    can &= s.board[y] == 0;
                    c.board[y] = width;
                }
            }
            if (can) {
                int seconds = c.round(man, load).seconds;
                if (seconds <= fewest) {
                    fewest = seconds;
                    bestSet = set;
                }
            }
        }
        return bestSet == -5 || what == 0 ? bestSet : s.copy().round(man, load).seconds - fewest;
    }

    int turns(int one, int other, int load, int t) {
        if (noMan(one) || noMan(other)) return -1;
        if (one == other || not(load, 1, 20) || not(t, 0, 999)) return -2;
        State c = s.copy();
        int[] who = {one, other}, back = {0, 0}, gone = {0, 0};
        int over = 0;
        for (int k = 0; ; k++) {
            int me = k % 2;
            Gone g = c.round(who[me], load);
            int begin = Math.max(back[me], gone[1 - me]);
            gone[me] = begin + g.filling;
            back[me] = begin + g.seconds;
            if (back[me] > t) return over;
            over += g.over;
        }
    }

    private int allBut(int left, int t) {
        State c = s.copy();
        for (int m = 0; m < s.men.size(); m++) {
            c = m == left ? c : c.behindBy(m, 10, t);
        }
        return c.over - s.over;
    }

    int worth(int man, int t) {
        if (noMan(man)) return -1001;
        if (not(t, 0, 999)) return -1002;
        return allBut(-1, t) - allBut(man, t);
    }

    int pave(int man, int load) {
        if (noMan(man)) return -1;
        if (not(load, 1, 20)) return -2;
        int[] took = new int[10];
        for (int y = 0; y < 10; y++) {
            State c = s.copy();
            c.soft[y] = 0;
            c.slope[y] = 0;
            took[y] = c.round(man, load).seconds;
        }
        int least = Arrays.stream(took).min().getAsInt();
        for (int y = 0; ; y++) {
            if (took[y] == least) return y;
        }
    }

    long odds(int man, int load, int p, int part) {
        if (noMan(man) || not(load, 1, 20) || not(p, 0, 10) || not(part, 0, 1)) return Long.MIN_VALUE;
        long above = 1, below = 1;
        int came = s.came(man, load);
        for (int y = 0; y < 10; y++) {
            if (s.lost(man, y, came) > 0) {
                above *= 10 - p;
                below *= 10;
            }
        }
        long g = java.math.BigInteger.valueOf(above).gcd(java.math.BigInteger.valueOf(below)).longValue();
        return (part == 0 ? above : below) / g;
    }

    int book(int n) {
        if (n == -1) {
            s.book.clear();
            return 0;
        }
        if (not(n, 0, 9999)) return -2;
        if (s.book.size() == 12) return -4;
        s.book.add(n);
        return s.book.size();
    }

    int looked(int man, int load) {
        if (noMan(man)) return -1;
        if (not(load, 1, 20)) return -2;
        State c = s.copy();
        for (int k = 0; k < s.book.size(); k++) {
            if (c.round(man, load).seconds != s.book.get(k)) return k;
        }
        return -5;
    }

    private int body(int from, int name, int[] m, int i, int x) {
        int kind = from;
        int[][] has = {{0, 1}, {0, 2}, {0, 3}, {1, 11}, {2, 21}, {3, 31}, {4, 41}, {5, 51}, {6, 61}};
        int[] names = {0, 1, 2, 0, 1, 2, 2, 0, 1};
        while (true) {
            for (int k = 0; k < has.length; k++) {
                if (has[k][0] == kind && names[k] == name) {
                    return ran(has[k][1], kind, m, i, x);
                }
            }
            kind = ABOVE[kind];
        }
    }

    private int ran(int number, int kind, int[] m, int i, int x) {
        if (bodies.size() < 20) {
            bodies.add(number);
        }
        switch (number) {
            case 1: return x + i;
            case 2: return body(m[0], 0, m, i, x) - m[1];
            case 3: return body(m[0], 1, m, i, x) * 2;
            case 11: return body(ABOVE[kind], 0, m, i, x * 3);
            case 21: return -body(ABOVE[kind], 1, m, i, x);
            case 31: return body(ABOVE[kind], 2, m, i, x) ^ 7;
            case 41: {
                int left = body(ABOVE[kind], 2, m, i, x - 1);
                return left + body(m[0], 0, m, i, 2);
            }
            case 51: return body(ABOVE[kind], 0, m, i, x) ^ i;
            default: return body(ABOVE[kind], 1, m, i, x) + m[1];
        }
    }

    int act(int man, int act, int x) {
        bodies.clear();
        return noMan(man) || not(act, 0, 2) ? 0 : body(s.men.get(man)[0], act, s.men.get(man), man, x);
    }

    int trace(int i) {
        return not(i, 0, bodies.size() - 1) ? -1 : bodies.get(i);
    }

    int as(int man, int k) {
        if (noMan(man) || not(k, 0, 6)) return -1;
        for (int kind = s.men.get(man)[0]; kind >= 0; kind = ABOVE[kind]) {
            if (kind == k) return s.men.get(man)[1];
        }
        return -6;
    }

    int image() {
        image = s.copy();
        return s.men.size();
    }

    int undo() {
        if (image == null) return -3;
        s = image.copy();
        return s.men.size();
    }

    int count(int what) {
        if (not(what, 0, 4)) return -1;
        return new int[] {s.men.size(), s.sites, s.book.size(), s.tape.length(), bodies.size()}[what];
    }
}
