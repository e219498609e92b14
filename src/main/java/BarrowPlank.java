import java.util.ArrayList;
import java.util.List;

/** A barrow and a plank: a way of ten yards, the men who go it, and what may be asked of their rounds. */
public final class BarrowPlank {
    public static final int NONE = -1, BAD = -2, STATE = -3, FULL = -4;
    public static final long NO = Long.MIN_VALUE;

    private static final int WAY = 10, MOST_MEN = 4, MOST_SITES = 5, MOST_SIGNS = 100, MOST_NOTES = 12;
    private static final int MOST_IN = 20, MOST_TIRED = 99, MOST_ROUNDS = 999, MOST_BY = 200, MOST_KEPT = 20;
    private static final int SOFT = 0, SLOPE = 1, BOARD = 2;
    /** What a call answers where -1 and -2 may be answers of their own. */
    private static final int FAR_NONE = -1001, FAR_BAD = -1002;
    private static final int NOT_ANY = -5, OTHER_KIND = -6, FAULT_BASE = -10;

    private final Works now;
    private final Works kept;
    /** All that is only asked is tried out here, so that it changes nothing. */
    private final Works trial;
    private final SiteReader reader;
    private final ArrayList<Integer> bodies;
    private boolean imaged;

    public BarrowPlank() {
        Site bare = new Site();
        now = new Works(bare);
        kept = new Works(bare);
        trial = new Works(bare);
        reader = new SiteReader();
        bodies = new ArrayList<Integer>();
        imaged = false;
    }

    // ---- sites, yards, men

    public int feed(int sign) {
        if (outside(sign, 0, 127)) {
            return BAD;
        }
        if (now.signs >= MOST_SIGNS) {
            return FULL;
        }
        now.tape[now.signs] = (char) sign;
        now.signs++;
        return now.signs;
    }

    public int site() {
        if (now.sites >= MOST_SITES) {
            return FULL;
        }
        Site read = reader.read(now.tape, now.signs);
        now.signs = 0;
        if (read == null) {
            return FAULT_BASE - reader.place;
        }
        now.settle(read);
        return now.sites - 1;
    }

    public int yard(int yard, int what, int n) {
        if (outside(yard, 0, WAY - 1) || outside(what, SOFT, BOARD)) {
            return NONE;
        }
        if (outside(n, 0, 9)) {
            return BAD;
        }
        return now.lay(yard, what, n);
    }

    public int at(int yard, int what) {
        if (outside(yard, 0, WAY - 1) || outside(what, SOFT, BOARD)) {
            return NONE;
        }
        return now.yards[what][yard];
    }

    public int earth(int n) {
        if (outside(n, 0, 999)) {
            return BAD;
        }
        int was = now.earth;
        now.earth = n;
        return was;
    }

    public int told(int what) {
        switch (what) {
            case 0: return now.earth;
            case 1: return now.over;
            case 2: return now.second;
            case 3: return now.rounds;
            case 4: return now.site.tire;
            case 5: return now.site.shovel;
            default: return NONE;
        }
    }

    public int man(int kind, int v, int strong) {
        if (outside(kind, 0, 6)) {
            return NONE;
        }
        if (outside(v, 0, 9) || outside(strong, 1, 20)) {
            return BAD;
        }
        if (now.crew >= MOST_MEN) {
            return FULL;
        }
        now.hire(Man.make(kind, now.crew, v, strong));
        return now.crew - 1;
    }

    public int of(int man, int what) {
        Man who = now.find(man);
        if (who == null) {
            return NONE;
        }
        switch (what) {
            case 0: return who.kind;
            case 1: return who.v;
            case 2: return who.strong;
            case 3: return now.tired[who.number];
            default: return NONE;
        }
    }

    // ---- rounds

    public int round(int man, int load) {
        Man who = now.find(man);
        if (who == null) {
            return NONE;
        }
        if (badLoad(load)) {
            return BAD;
        }
        if (now.rounds >= MOST_ROUNDS) {
            return STATE;
        }
        Trip trip = now.plan(who, load);
        now.finish(who, trip);
        return trip.seconds;
    }

    public int rest(int man, int n) {
        Man who = now.find(man);
        if (who == null) {
            return NONE;
        }
        if (outside(n, 0, 99)) {
            return BAD;
        }
        now.tire(who, -n);
        return now.tired[who.number];
    }

    public int run(int man, int n, int load, int what) {
        Man who = now.find(man);
        if (who == null || outside(what, 0, 3)) {
            return FAR_NONE;
        }
        if (outside(n, 0, 30) || badLoad(load)) {
            return FAR_BAD;
        }
        trial.take(now);
        for (int k = 0; k < n; k++) {
            trial.finish(who, trial.plan(who, load));
        }
        int over = trial.over - now.over;
        switch (what) {
            case 0: return over;
            case 1: return trial.second - now.second;
            case 2: return trial.tired[who.number];
            default: return now.earth - trial.earth - over;
        }
    }

    public int by(int man, int load, int t) {
        Man who = now.find(man);
        if (who == null) {
            return NONE;
        }
        if (badLoad(load) || outside(t, 0, 9999)) {
            return BAD;
        }
        return overBy(who, load, t);
    }

    public int full(int man, int t) {
        Man who = now.find(man);
        if (who == null) {
            return NONE;
        }
        if (outside(t, 0, 9999)) {
            return BAD;
        }
        int best = 1;
        int most = overBy(who, 1, t);
        for (int load = 2; load <= MOST_IN; load++) {
            int over = overBy(who, load, t);
            if (over > most) {
                most = over;
                best = load;
            }
        }
        return best;
    }

    // ---- boards, turns, worth

    public int boards(int man, int load, int n, int width, int what) {
        Man who = now.find(man);
        if (who == null || outside(what, 0, 1)) {
            return FAR_NONE;
        }
        if (badLoad(load) || outside(n, 1, 3) || outside(width, 1, 9)) {
            return FAR_BAD;
        }
        trial.take(now);
        int without = trial.plan(who, load).seconds;
        int best = NOT_ANY;
        int fewest = 0;
        for (int set = 1; set < 1 << WAY; set++) {
            if (Integer.bitCount(set) != n || !trial.isBare(set)) {
                continue;
            }
            trial.layAll(set, width);
            int seconds = trial.plan(who, load).seconds;
            trial.layAll(set, 0);
            if (best == NOT_ANY || seconds < fewest) {
                best = set;
                fewest = seconds;
            }
        }
        return what == 0 || best == NOT_ANY ? best : without - fewest;
    }

    public int turns(int one, int other, int load, int t) {
        Man first = now.find(one);
        Man second = now.find(other);
        if (first == null || second == null) {
            return NONE;
        }
        if (one == other || badLoad(load) || outside(t, 0, 999)) {
            return BAD;
        }
        trial.take(now);
        int shovelFree = 0;
        int back = 0;
        int otherBack = 0;
        Man who = first;
        // Each man's rounds take 20 seconds or more, so that t ends this far below the bound.
        for (int k = 0; k < 1000; k++) {
            Trip trip = trial.plan(who, load);
            int begin = Math.max(back, shovelFree);
            int end = begin + trip.seconds;
            if (end > t) {
                break;
            }
            shovelFree = begin + trip.filling;
            trial.finish(who, trip);
            back = otherBack;
            otherBack = end;
            who = who == first ? second : first;
        }
        return trial.over - now.over;
    }

    public int worth(int man, int t) {
        if (now.find(man) == null) {
            return FAR_NONE;
        }
        if (outside(t, 0, 999)) {
            return FAR_BAD;
        }
        return overOfAllBut(NONE, t) - overOfAllBut(man, t);
    }

    public int pave(int man, int load) {
        Man who = now.find(man);
        if (who == null) {
            return NONE;
        }
        if (badLoad(load)) {
            return BAD;
        }
        trial.take(now);
        int best = 0;
        int fewest = 0;
        for (int yard = 0; yard < WAY; yard++) {
            int soft = trial.lay(yard, SOFT, 0);
            int slope = trial.lay(yard, SLOPE, 0);
            int seconds = trial.plan(who, load).seconds;
            trial.lay(yard, SOFT, soft);
            trial.lay(yard, SLOPE, slope);
            if (yard == 0 || seconds < fewest) {
                best = yard;
                fewest = seconds;
            }
        }
        return best;
    }

    public long odds(int man, int load, int p, int part) {
        Man who = now.find(man);
        if (who == null || badLoad(load) || outside(p, 0, 10) || outside(part, 0, 1)) {
            return NO;
        }
        // Powers of a fraction in lowest terms are in lowest terms, so that only the base is shortened.
        int shared = commonDivisor(10, 10 - p);
        int base = (part == 0 ? 10 - p : 10) / shared;
        int yards = now.risky(who, load);
        long power = 1;
        for (int k = 0; k < yards; k++) {
            power *= base;
        }
        return power;
    }

    // ---- books

    public int book(int n) {
        if (n == -1) {
            now.notes = 0;
            return 0;
        }
        if (outside(n, 0, 9999)) {
            return BAD;
        }
        if (now.notes >= MOST_NOTES) {
            return FULL;
        }
        now.noted[now.notes] = n;
        now.notes++;
        return now.notes;
    }

    public int looked(int man, int load) {
        Man who = now.find(man);
        if (who == null) {
            return NONE;
        }
        if (badLoad(load)) {
            return BAD;
        }
        trial.take(now);
        for (int k = 0; k < now.notes; k++) {
            Trip trip = trial.plan(who, load);
            if (trip.seconds != now.noted[k]) {
                return k;
            }
            trial.finish(who, trip);
        }
        return NOT_ANY;
    }

    // ---- acts, the image

    public int act(int man, int act, int x) {
        bodies.clear();
        Man who = now.find(man);
        if (who == null) {
            return 0;
        }
        switch (act) {
            case 0: return who.lifts(x, bodies);
            case 1: return who.goes(x, bodies);
            case 2: return who.tires(x, bodies);
            default: return 0;
        }
    }

    public int trace(int i) {
        if (i < 0 || i >= bodies.size()) {
            return NONE;
        }
        return bodies.get(i);
    }

    public int as(int man, int k) {
        Man who = now.find(man);
        if (who == null || outside(k, 0, 6)) {
            return NONE;
        }
        return who.isUnder(k) ? who.v : OTHER_KIND;
    }

    public int image() {
        kept.takeAll(now);
        imaged = true;
        return now.crew;
    }

    public int undo() {
        if (!imaged) {
            return STATE;
        }
        now.takeAll(kept);
        return now.crew;
    }

    public int count(int what) {
        switch (what) {
            case 0: return now.crew;
            case 1: return now.sites;
            case 2: return now.notes;
            case 3: return now.signs;
            case 4: return bodies.size();
            default: return NONE;
        }
    }

    private int overBy(Man who, int load, int t) {
        trial.take(now);
        trial.carry(who, load, t);
        return trial.over - now.over;
    }

    private int overOfAllBut(int left, int t) {
        trial.take(now);
        for (int k = 0; k < now.crew; k++) {
            Man who = now.find(k);
            if (who != null && k != left) {
                trial.carry(who, 10, t);
            }
        }
        return trial.over - now.over;
    }

    private static boolean outside(int n, int least, int most) {
        return n < least || n > most;
    }

    private static boolean badLoad(int load) {
        return outside(load, 1, MOST_IN);
    }

    /** One that divides both, the greatest; a is 1 or more. */
    private static int commonDivisor(int a, int b) {
        for (int d = a; d > 1; d--) {
            if (a % d == 0 && b % d == 0) {
                return d;
            }
        }
        return 1;
    }

    /** How all is, but for THE IMAGE and THE TRACE. */
    private static final class Works {
        /** By what (SOFT, SLOPE, BOARD), then by YARD. */
        final int[][] yards = new int[3][WAY];
        final Man[] men = new Man[MOST_MEN];
        final int[] tired = new int[MOST_MEN];
        final char[] tape = new char[MOST_SIGNS];
        final int[] noted = new int[MOST_NOTES];
        int crew;
        int signs;
        int notes;
        int earth = 100;
        int over;
        int second;
        int rounds;
        Site site;
        int sites;
        /** One for each man, since two may go by turns. */
        private final Trip[] trips = new Trip[MOST_MEN];
        private final int[] facts = new int[Site.SUBJECTS];

        Works(Site bare) {
            site = bare;
            for (int k = 0; k < MOST_MEN; k++) {
                trips[k] = new Trip();
            }
        }

        Man find(int man) {
            return man < 0 || man >= crew || man >= MOST_MEN ? null : men[man];
        }

        void hire(Man who) {
            men[who.number] = who;
            tired[who.number] = 0;
            crew = who.number + 1;
        }

        void settle(Site newest) {
            site = newest;
            sites++;
            forget();
        }

        int lay(int yard, int what, int n) {
            int was = yards[what][yard];
            yards[what][yard] = n;
            forget();
            return was;
        }

        void layAll(int set, int width) {
            for (int yard = 0; yard < WAY; yard++) {
                if ((set >> yard & 1) == 1) {
                    lay(yard, BOARD, width);
                }
            }
        }

        /** Whether none of a set of YARDS has a BOARD. */
        boolean isBare(int set) {
            for (int yard = 0; yard < WAY; yard++) {
                if ((set >> yard & 1) == 1 && yards[BOARD][yard] > 0) {
                    return false;
                }
            }
            return true;
        }

        void tire(Man who, int more) {
            int then = tired[who.number] + more;
            tired[who.number] = Math.max(0, Math.min(MOST_TIRED, then));
        }

        /** What a ROUND would be as all is; it changes nothing till finish(). */
        Trip plan(Man who, int load) {
            Trip trip = trips[who.number];
            int came = comesIn(who, load);
            if (!trip.known || trip.came != came) {
                walk(trip, who, came);
            }
            int weary = tired[who.number];
            trip.filling = site.shovel * came + who.waits();
            trip.seconds = trip.filling + trip.walking + 2 * WAY * (weary / 10 + who.drags(weary));
            return trip;
        }

        void finish(Man who, Trip trip) {
            earth -= trip.came;
            over += trip.over;
            second += trip.seconds;
            tire(who, trip.came > who.strong ? site.tire : -1);
            rounds++;
            if (rounds % 3 == 0) {
                soften();
            }
        }

        /** ROUNDS one behind the other as far as t goes; without EARTH no OVER comes, so it ends there. */
        void carry(Man who, int load, int t) {
            int end = second + t;
            for (int k = 0; k < MOST_BY && earth > 0; k++) {
                Trip trip = plan(who, load);
                if (second + trip.seconds > end) {
                    break;
                }
                finish(who, trip);
            }
        }

        /** In how many YARDS something would be lost, were the barrow as it was filled. */
        int risky(Man who, int load) {
            int came = comesIn(who, load);
            int many = 0;
            for (int yard = 0; yard < WAY && came > 0; yard++) {
                look(who, yard, came);
                if (site.lost(facts) + who.slops(yard, yards[BOARD][yard]) > 0) {
                    many++;
                }
            }
            return many;
        }

        void take(Works from) {
            for (int what = SOFT; what <= BOARD; what++) {
                System.arraycopy(from.yards[what], 0, yards[what], 0, WAY);
            }
            for (int k = 0; k < MOST_MEN; k++) {
                men[k] = from.men[k];
                tired[k] = from.tired[k];
            }
            crew = from.crew;
            earth = from.earth;
            over = from.over;
            second = from.second;
            rounds = from.rounds;
            site = from.site;
            sites = from.sites;
            forget();
        }

        void takeAll(Works from) {
            take(from);
            System.arraycopy(from.tape, 0, tape, 0, MOST_SIGNS);
            System.arraycopy(from.noted, 0, noted, 0, MOST_NOTES);
            signs = from.signs;
            notes = from.notes;
        }

        private int comesIn(Man who, int load) {
            return Math.min(Math.min(load + who.heaps(), MOST_IN), earth);
        }

        private void walk(Trip trip, Man who, int came) {
            int in = came;
            int walking = 0;
            for (int yard = 0; yard < WAY; yard++) {
                int board = yards[BOARD][yard];
                look(who, yard, in);
                walking += Math.max(1, 2 + site.slower(facts)) + who.slips(board);
                in -= Math.min(in, site.lost(facts) + who.slops(yard, board));
                in -= who.tips(in, board);
                // The way back may be walked here too: nothing of a YARD changes till the ROUND ends.
                look(who, yard, 0);
                walking += Math.max(1, 2 + site.slower(facts)) + who.slips(board);
            }
            trip.came = came;
            trip.walking = walking;
            trip.over = in;
            trip.known = true;
        }

        private void look(Man who, int yard, int in) {
            facts[0] = yard;
            facts[1] = yards[SOFT][yard];
            facts[2] = yards[SLOPE][yard];
            facts[3] = yards[BOARD][yard];
            facts[4] = in;
            facts[5] = who.kind;
        }

        private void soften() {
            boolean softer = false;
            for (int yard = 0; yard < WAY; yard++) {
                if (yards[BOARD][yard] == 0 && yards[SOFT][yard] < 9) {
                    yards[SOFT][yard]++;
                    softer = true;
                }
            }
            if (softer) {
                forget();
            }
        }

        /** What was walked holds only as long as YARDS, SITE and men are the same. */
        private void forget() {
            for (int k = 0; k < MOST_MEN; k++) {
                trips[k].known = false;
            }
        }
    }

    /** A ROUND as it would go; came, walking and over are kept from ROUND to ROUND while known. */
    private static final class Trip {
        boolean known;
        int came;
        int filling;
        /** The seconds of all YARDS there and back, less what being TIRED adds. */
        int walking;
        int seconds;
        int over;
    }

    /** A man of the KIND ROUND; what the KINDS under it do otherwise stands with them. */
    private static class Man {
        final int kind;
        final int number;
        final int v;
        final int strong;

        Man(int kind, int number, int v, int strong) {
            this.kind = kind;
            this.number = number;
            this.v = v;
            this.strong = strong;
        }

        static Man make(int kind, int number, int v, int strong) {
            switch (kind) {
                case 1: return new Full(kind, number, v, strong);
                case 2: return new Waiting(kind, number, v, strong);
                case 3: return new Slow(kind, number, v, strong);
                case 4: return new Heaped(kind, number, v, strong);
                case 5: return new Spilt(kind, number, v, strong);
                case 6: return new Off(kind, number, v, strong);
                default: return new Man(kind, number, v, strong);
            }
        }

        final boolean isUnder(int k) {
            switch (k) {
                case 0: return true;
                case 1: return this instanceof Full;
                case 2: return this instanceof Waiting;
                case 3: return this instanceof Slow;
                case 4: return this instanceof Heaped;
                case 5: return this instanceof Spilt;
                case 6: return this instanceof Off;
                default: return false;
            }
        }

        static void begin(List<Integer> bodies, int body) {
            if (bodies.size() < MOST_KEPT) {
                bodies.add(body);
            }
        }

        /** How much more than the LOAD he fills in. */
        int heaps() {
            return 0;
        }

        /** How many seconds more he takes to fill. */
        int waits() {
            return 0;
        }

        /** How many seconds more each YARD takes when he is so TIRED. */
        int drags(int tired) {
            return 0;
        }

        /** How many seconds more a YARD takes by its BOARD. */
        int slips(int board) {
            return 0;
        }

        /** How much more than LOST is lost in a YARD. */
        int slops(int yard, int board) {
            return 0;
        }

        /** How much of the rest is lost, too. */
        int tips(int rest, int board) {
            return 0;
        }

        int lifts(int x, List<Integer> bodies) {
            begin(bodies, 1);
            return x + number;
        }

        int goes(int x, List<Integer> bodies) {
            begin(bodies, 2);
            return lifts(x, bodies) - v;
        }

        int tires(int x, List<Integer> bodies) {
            begin(bodies, 3);
            return goes(x, bodies) * 2;
        }
    }

    private static class Full extends Man {
        Full(int kind, int number, int v, int strong) {
            super(kind, number, v, strong);
        }

        int heaps() {
            return v;
        }

        int lifts(int x, List<Integer> bodies) {
            begin(bodies, 11);
            return super.lifts(x * 3, bodies);
        }
    }

    private static class Waiting extends Man {
        Waiting(int kind, int number, int v, int strong) {
            super(kind, number, v, strong);
        }

        int waits() {
            return v;
        }

        int goes(int x, List<Integer> bodies) {
            begin(bodies, 21);
            return -super.goes(x, bodies);
        }
    }

    private static class Slow extends Man {
        Slow(int kind, int number, int v, int strong) {
            super(kind, number, v, strong);
        }

        int drags(int tired) {
            return tired > v ? 1 : 0;
        }

        int tires(int x, List<Integer> bodies) {
            begin(bodies, 31);
            return super.tires(x, bodies) ^ 7;
        }
    }

    private static final class Heaped extends Full {
        Heaped(int kind, int number, int v, int strong) {
            super(kind, number, v, strong);
        }

        int slops(int yard, int board) {
            return board > 0 ? v : 0;
        }

        int tires(int x, List<Integer> bodies) {
            begin(bodies, 41);
            return super.tires(x - 1, bodies) + lifts(2, bodies);
        }
    }

    private static final class Spilt extends Waiting {
        Spilt(int kind, int number, int v, int strong) {
            super(kind, number, v, strong);
        }

        int slops(int yard, int board) {
            return yard == v ? 1 : 0;
        }

        int lifts(int x, List<Integer> bodies) {
            begin(bodies, 51);
            return super.lifts(x, bodies) ^ number;
        }
    }

    private static final class Off extends Slow {
        Off(int kind, int number, int v, int strong) {
            super(kind, number, v, strong);
        }

        private boolean isNarrow(int board) {
            return board > 0 && board < v;
        }

        int slips(int board) {
            return isNarrow(board) ? 20 : 0;
        }

        int tips(int rest, int board) {
            return isNarrow(board) ? rest / 2 : 0;
        }

        int goes(int x, List<Integer> bodies) {
            begin(bodies, 61);
            return super.goes(x, bodies) + v;
        }
    }

    /** CLAUSES as rows; their conditions stand behind one another, each TEST and NOT, AND, OR behind its parts. */
    private static final class Site {
        static final int MOST_CLAUSES = 10, SUBJECTS = 6, SIGNS = 3, NUMBERS = 100;
        static final int PACE = 0, EASE = 1, SPILL = 2, TIRE = 3, SHOVEL = 4, WORDS = 5;
        static final int NOT = -1, AND = -2, OR = -3;

        int tire = 1;
        int shovel = 2;
        private final int[] words = new int[MOST_CLAUSES];
        private final int[] numbers = new int[MOST_CLAUSES];
        private final int[] ends = new int[MOST_CLAUSES];
        private final int[] codes = new int[MOST_SIGNS];
        private int clauses;
        private int size;

        static String word(int k) {
            switch (k) {
                case PACE: return "pace";
                case EASE: return "ease";
                case SPILL: return "spill";
                case TIRE: return "tire";
                default: return "shovel";
            }
        }

        static boolean hasCondition(int word) {
            return word == PACE || word == EASE || word == SPILL;
        }

        /** A part of the condition of the CLAUSE that is added next. */
        void put(int code) {
            if (size < MOST_SIGNS) {
                codes[size] = code;
                size++;
            }
        }

        void putTest(int subject, int sign, int number) {
            put((subject * SIGNS + sign) * NUMBERS + number);
        }

        void add(int word, int n) {
            if (word == TIRE) {
                tire = n;
            } else if (word == SHOVEL) {
                shovel = n;
            } else if (clauses < MOST_CLAUSES) {
                words[clauses] = word;
                numbers[clauses] = n;
                ends[clauses] = size;
                clauses++;
            }
        }

        int slower(int[] facts) {
            int sum = 0;
            for (int k = 0; k < clauses; k++) {
                if (words[k] != SPILL && holds(k, facts)) {
                    sum += words[k] == PACE ? numbers[k] : -numbers[k];
                }
            }
            return sum;
        }

        int lost(int[] facts) {
            int sum = 0;
            for (int k = 0; k < clauses; k++) {
                if (words[k] == SPILL && holds(k, facts)) {
                    sum += numbers[k];
                }
            }
            return sum;
        }

        /** The stack is bits of one int: with five open at most, fewer than twenty wait at once. */
        private boolean holds(int clause, int[] facts) {
            int stack = 0;
            for (int k = clause == 0 ? 0 : ends[clause - 1]; k < ends[clause]; k++) {
                int code = codes[k];
                int top = stack & 1;
                if (code == NOT) {
                    stack ^= 1;
                } else if (code == AND) {
                    stack = stack >> 1 & (top | ~1);
                } else if (code == OR) {
                    stack = stack >> 1 | top;
                } else {
                    int ask = code / NUMBERS;
                    int order = Integer.compare(facts[ask / SIGNS], code % NUMBERS);
                    stack = stack << 1 | (order == ask % SIGNS - 1 ? 1 : 0);
                }
            }
            return (stack & 1) == 1;
        }
    }

    /** Reads a SITE from the left on; it stands at the first sign that can't go on. */
    private static final class SiteReader {
        static final int MOST_OPEN = 5;
        /** The order in which Works looks at a YARD. */
        static final String ASKED = "ysublk";
        static final String COMPARED = "<=>";
        static final String DIGITS = "0123456789";

        int place;
        private char[] tape;
        private int size;
        private Site draft;

        /** The SITE, or null: then place is its FAULT. */
        Site read(char[] signs, int many) {
            tape = signs;
            size = Math.min(many, signs.length);
            place = 0;
            draft = new Site();
            for (int k = 0; k < Site.MOST_CLAUSES; k++) {
                if (!readClause()) {
                    return null;
                }
                if (place >= size) {
                    return draft;
                }
                if (k == Site.MOST_CLAUSES - 1 || !reads(";")) {
                    return null;
                }
            }
            return null;
        }

        private boolean readClause() {
            int word = readWord();
            if (word < 0 || !reads(" ")) {
                return false;
            }
            int n = readNumber();
            if (n < 0) {
                return false;
            }
            if (Site.hasCondition(word) && !(reads(" ") && readEither(0))) {
                return false;
            }
            draft.add(word, n);
            return true;
        }

        /** No word begins another, so that the one that fits farthest tells where none goes on. */
        private int readWord() {
            int farthest = 0;
            for (int k = 0; k < Site.WORDS; k++) {
                String word = Site.word(k);
                int fits = fits(word);
                if (fits == word.length()) {
                    place += fits;
                    return k;
                }
                farthest = Math.max(farthest, fits);
            }
            place += farthest;
            return -1;
        }

        private int fits(String word) {
            int k = 0;
            while (k < word.length() && place + k < size && tape[place + k] == word.charAt(k)) {
                k++;
            }
            return k;
        }

        private int readNumber() {
            int number = oneOf(DIGITS);
            if (number > 0) {
                int digit = oneOf(DIGITS);
                number = digit < 0 ? number : number * 10 + digit;
            }
            return number;
        }

        /** An E: parts with & between stand closer together than those with | between. */
        private boolean readEither(int open) {
            int either = 0;
            do {
                int both = 0;
                do {
                    if (!readPart(open)) {
                        return false;
                    }
                    if (both > 0) {
                        draft.put(Site.AND);
                    }
                    both++;
                } while (both < MOST_SIGNS && reads("&"));
                if (either > 0) {
                    draft.put(Site.OR);
                }
                either++;
            } while (either < MOST_SIGNS && reads("|"));
            return true;
        }

        private boolean readPart(int open) {
            if (open < MOST_OPEN && reads("!")) {
                if (!readPart(open + 1)) {
                    return false;
                }
                draft.put(Site.NOT);
                return true;
            }
            if (open < MOST_OPEN && reads("(")) {
                return readEither(open + 1) && reads(")");
            }
            return readTest();
        }

        private boolean readTest() {
            int subject = oneOf(ASKED);
            if (subject < 0) {
                return false;
            }
            int sign = oneOf(COMPARED);
            if (sign < 0) {
                return false;
            }
            int number = readNumber();
            if (number < 0) {
                return false;
            }
            draft.putTest(subject, sign, number);
            return true;
        }

        private boolean reads(String sign) {
            return oneOf(sign) >= 0;
        }

        /** Which of these signs comes next, and it is read; -1: none, and nothing is. */
        private int oneOf(String signs) {
            int k = place < size ? signs.indexOf(tape[place]) : -1;
            if (k >= 0) {
                place++;
            }
            return k;
        }
    }
}
