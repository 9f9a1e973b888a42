import java.util.Arrays;

/** An old book of what dreams mean. README.md says how to use it. */
public final class DreamBook {
    public static final int NONE = -1;

    private static final int NO_TRAY = 1;
    private static final int NO_SUCH = 2;
    private static final int MISSING = 3;
    private static final int NO_PLACE = 4;
    private static final int BAD_NUMBER = 5;
    private static final int BELOW_ZERO = 6;
    private static final int TOO_MANY = 7;
    private static final int NOTHING = 8;
    private static final int CANNOT = 9;
    private static final int FAULTY = 10;
    private static final int UNLIKE = 11;

    // Kinds of what a book tells, in the order of many(); each is also the number of its keyword.
    private static final int THING = 0;
    private static final int PERSON = 1;
    private static final int SEASON = 2;
    private static final int RULE = 3;
    private static final int NOTE = 4;
    private static final int DREAM = 5;

    // The other keywords, by their places in Scanner.KEYWORDS.
    private static final int WIDOW = 6;
    private static final int TURNS = 7;
    private static final int OF = 8;
    private static final int MEANING = 9;
    private static final int LESS = 10;
    private static final int NEXT_TO = 11;
    private static final int UNLESS_THERE = 12;
    private static final int FOR = 13;
    private static final int IN = 14;
    private static final int STRIKES = 15;
    private static final int COSTS = 16;
    private static final int CHANCE = 17;
    private static final int NIGHT = 18;
    private static final int ANY = 19;
    private static final int STRIKE = 20;
    private static final int PRINT = 21;
    private static final int WHEN = 22;
    private static final int LOOP = 23;
    private static final int STOP = 24;
    private static final int END = 25;
    private static final int SUM = 26;
    private static final int WORN = 27;

    // Places in the row of a rule, in the order of rule().
    private static final int OF_THING = 0;
    private static final int MEANS = 1;
    private static final int BY = 2;
    private static final int UNLESS = 3;
    private static final int FOR_PERSON = 4;
    private static final int IN_SEASON = 5;

    private static final int MOST_THINGS = 10;
    private static final int MOST_PERSONS = 4;
    private static final int MOST_SEASONS = 3;
    private static final int MOST_RULES = 12;
    private static final int MOST_NOTES = 12;
    private static final int MOST_DREAMS = 8;
    private static final int MOST_NAMES = 37;
    private static final int LONGEST_DREAM = 6;
    private static final int MOST_MEANS = 99;
    private static final int LONGEST_ROW = 8;
    private static final int MOST_MARKS = 3;
    private static final int MOST_SUM = 9999;
    private static final int MOST_SEED = 9999;
    private static final int MOST_VALUE = 999;
    private static final int MOST_NIGHTS_TEXT = 300;

    private int latest;
    private final Trays trays;
    private final Scanner scanner;
    private final BookParser bookParser;
    private final PlanParser planParser;
    private final Told told;
    private final Life life;
    private final Plan plan;
    private final Reader reader;
    private final Finder finder;
    private final Odds odds;
    private final Runner runner;
    private final Told[] markedTold;
    private final Life[] markedLife;
    private final Plan[] markedPlan;
    private int marks;

    public DreamBook() {
        trays = new Trays();
        scanner = new Scanner();
        told = new Told();
        life = new Life();
        plan = new Plan();
        bookParser = new BookParser(scanner);
        planParser = new PlanParser(scanner, told);
        reader = new Reader(told, life);
        finder = new Finder(told, life, reader);
        odds = new Odds(told, reader);
        runner = new Runner(told, life, plan, reader);
        markedTold = new Told[MOST_MARKS];
        markedLife = new Life[MOST_MARKS];
        markedPlan = new Plan[MOST_MARKS];
        for (int i = 0; i < MOST_MARKS; i++) {
            markedTold[i] = new Told();
            markedLife[i] = new Life();
            markedPlan[i] = new Plan();
        }
    }

    public int status() {
        return latest;
    }

    public long top() {
        return odds.above;
    }

    public long bottom() {
        return odds.below;
    }

    // ---- TRAYS

    public boolean tray(int tray, int sort, int many) {
        if (!trays.isTray(tray) || !within(sort, 0, 3)) {
            return refuse(NO_TRAY);
        }
        if (many > Trays.LONGEST) {
            return refuse(BAD_NUMBER);
        }
        if (many < 0) {
            return refuse(BELOW_ZERO);
        }
        trays.lay(tray, sort, many);
        return agree();
    }

    public boolean write(int tray, int place, long v) {
        int bad = trays.check(tray);
        if (bad == 0 && !trays.hasPlace(tray, place)) {
            bad = NO_PLACE;
        }
        if (bad != 0) {
            return refuse(bad);
        }
        trays.put(tray, place, v);
        return agree();
    }

    public long read(int tray, int place) {
        int bad = trays.check(tray);
        if (bad == 0 && !trays.hasPlace(tray, place)) {
            bad = NO_PLACE;
        }
        if (bad != 0) {
            return no(bad);
        }
        latest = 0;
        return trays.numbers[tray][place];
    }

    public boolean pour(int tray, int i, int to, int j, int many) {
        int bad = trays.checkBoth(tray, to);
        if (bad == 0 && many < 0) {
            bad = BELOW_ZERO;
        }
        if (bad == 0 && !(trays.hasRun(tray, i, many) && trays.hasRun(to, j, many))) {
            bad = NO_PLACE;
        }
        if (bad != 0) {
            return refuse(bad);
        }
        System.arraycopy(trays.numbers[tray], i, trays.numbers[to], j, many);
        return agree();
    }

    // ---- texts

    public int feed(int a, int b, int c, int d, int e) {
        if (!scanner.hasRoom()) {
            return NONE;
        }
        scanner.append(a);
        scanner.append(b);
        scanner.append(c);
        scanner.append(d);
        scanner.append(e);
        return scanner.fed;
    }

    public int book(int n) {
        if (!within(n, 0, scanner.fed)) {
            return no(BAD_NUMBER);
        }
        boolean taken = bookParser.parse(n);
        scanner.fed = 0;
        if (!taken) {
            return no(FAULTY);
        }
        told.copyFrom(bookParser.draft);
        life.clear();
        plan.clear();
        return yes(told.counts[RULE]);
    }

    public int nights(int n) {
        if (!within(n, 0, scanner.fed) || n > MOST_NIGHTS_TEXT) {
            return no(BAD_NUMBER);
        }
        boolean taken = planParser.parse(n);
        scanner.fed = 0;
        if (!taken) {
            return no(FAULTY);
        }
        plan.copyFrom(planParser.draft);
        return yes(plan.steps);
    }

    public int fault(int what) {
        if (what == 0) {
            return scanner.faultKind;
        }
        return what == 1 ? scanner.faultPlace : NONE;
    }

    public int many(int what) {
        if (!within(what, 0, 9)) {
            return no(BAD_NUMBER);
        }
        switch (what) {
            case 6:
                return yes(told.allChances());
            case 7:
                return yes(life.dreamt);
            case 8:
                return yes(reader.inForce());
            case 9:
                return yes(life.struck);
            default:
                return yes(told.counts[what]);
        }
    }

    public int rule(int rule, int what) {
        if (!has(RULE, rule)) {
            return no(NO_SUCH);
        }
        if (!within(what, 0, 7)) {
            return no(BAD_NUMBER);
        }
        if (what == 6) {
            return yes(life.used[rule]);
        }
        if (what == 7) {
            return yes(reader.worth(rule));
        }
        int value = told.rules[rule][what];
        if (what >= BY && value == NONE) {
            return no(NOTHING);
        }
        return yes(value);
    }

    public int person(int person, int what) {
        if (!has(PERSON, person)) {
            return no(NO_SUCH);
        }
        if (!within(what, 0, 1)) {
            return no(BAD_NUMBER);
        }
        return yes(what == 0 ? told.widow[person] : life.sums[person]);
    }

    public int turns(int season) {
        if (!has(SEASON, season)) {
            return no(NO_SUCH);
        }
        return yes(told.turning[season]);
    }

    public int note(int note, int what) {
        if (!has(NOTE, note)) {
            return no(NO_SUCH);
        }
        if (!within(what, 0, 1)) {
            return no(BAD_NUMBER);
        }
        return yes(told.notes[note][what]);
    }

    public int dream(int dream, int what) {
        if (!has(DREAM, dream)) {
            return no(NO_SUCH);
        }
        if (!within(what, 0, 2)) {
            return no(BAD_NUMBER);
        }
        if (what == 0) {
            return yes(told.sizes[dream]);
        }
        return yes(what == 1 ? told.costs[dream] : told.chances[dream]);
    }

    public int dreamAt(int dream, int k) {
        if (!has(DREAM, dream)) {
            return no(NO_SUCH);
        }
        if (!within(k, 0, told.sizes[dream] - 1)) {
            return no(NOTHING);
        }
        return yes(told.dreams[dream][k]);
    }

    public int copyDream(int dream, int tray) {
        int bad = trays.check(tray);
        if (bad == 0 && !has(DREAM, dream)) {
            bad = NO_SUCH;
        }
        if (bad == 0 && told.sizes[dream] > trays.lengths[tray]) {
            bad = NO_PLACE;
        }
        if (bad != 0) {
            return no(bad);
        }
        for (int k = 0; k < told.sizes[dream]; k++) {
            trays.put(tray, k, told.dreams[dream][k]);
        }
        return yes(told.sizes[dream]);
    }

    // ---- which RULES stand

    public int standing(int rule) {
        if (!has(RULE, rule)) {
            return no(NO_SUCH);
        }
        if (isIn(told.stands, rule)) {
            return yes(0);
        }
        return yes(isIn(told.fallen, rule) ? 1 : 2);
    }

    public int stables() {
        return yes(told.countStable());
    }

    public int stable(int k) {
        int set = told.findStable(k);
        return set == NONE ? no(NOTHING) : yes(set);
    }

    public int strikes(int rule, int what) {
        if (!has(RULE, rule)) {
            return no(NO_SUCH);
        }
        if (!within(what, 0, 1)) {
            return no(BAD_NUMBER);
        }
        return yes(what == 0 ? told.struckOf[rule] : told.strikersOf[rule]);
    }

    public boolean strike(int rule) {
        if (!has(RULE, rule)) {
            return refuse(NO_SUCH);
        }
        return life.strikeOut(rule) ? agree() : refuse(CANNOT);
    }

    public boolean mend(int rule) {
        if (!has(RULE, rule)) {
            return refuse(NO_SUCH);
        }
        if (!isIn(life.struck, rule)) {
            return refuse(CANNOT);
        }
        life.struck &= ~(1 << rule);
        return agree();
    }

    public int print(int rule) {
        if (!has(RULE, rule)) {
            return no(NO_SUCH);
        }
        int before = life.used[rule];
        life.used[rule] = 0;
        return yes(before);
    }

    // ---- READINGS

    public int reading(int dream, int person, int season) {
        if (!isReading(dream, person, season)) {
            return no(NO_SUCH);
        }
        return yes(reader.readDream(dream, person, season));
    }

    public int readRow(int tray, int n, int person, int season) {
        int bad = trays.check(tray);
        if (bad == 0 && n > trays.lengths[tray]) {
            bad = NO_PLACE;
        }
        if (bad == 0 && !within(n, 1, LONGEST_ROW)) {
            bad = BAD_NUMBER;
        }
        if (bad == 0 && !(isFor(person, season) && takeRow(trays.numbers[tray], n))) {
            bad = NO_SUCH;
        }
        if (bad != 0) {
            return no(bad);
        }
        return yes(reader.sign(person, season) * reader.addWorths(reader.row, n, reader.openFor(person, season)));
    }

    public int ruleAt(int dream, int k, int person, int season) {
        if (!isReading(dream, person, season)) {
            return no(NO_SUCH);
        }
        if (!within(k, 0, told.sizes[dream] - 1)) {
            return no(NOTHING);
        }
        reader.readDream(dream, person, season);
        return reader.counted[k] == NONE ? no(NOTHING) : yes(reader.counted[k]);
    }

    public int valueAt(int dream, int k, int person, int season) {
        if (!isReading(dream, person, season)) {
            return no(NO_SUCH);
        }
        if (!within(k, 0, told.sizes[dream] - 1)) {
            return no(NOTHING);
        }
        reader.readDream(dream, person, season);
        int rule = reader.counted[k];
        return yes(rule == NONE ? 0 : reader.sign(person, season) * reader.worth(rule));
    }

    public int night(int dream, int person, int season) {
        if (person == NONE || !isReading(dream, person, season)) {
            return no(NO_SUCH);
        }
        return runner.dreamNight(dream, person, season) ? yes(life.sums[person]) : no(TOO_MANY);
    }

    public int counting(int dream, int person, int season) {
        if (!isReading(dream, person, season)) {
            return no(NO_SUCH);
        }
        return yes(reader.countedIn(dream, person, season));
    }

    public int idle() {
        return yes(finder.uncounted());
    }

    public int mostUsed() {
        int most = NONE;
        for (int r = 0; r < told.counts[RULE]; r++) {
            if (life.used[r] > (most == NONE ? 0 : life.used[most])) {
                most = r;
            }
        }
        return most == NONE ? no(NOTHING) : yes(most);
    }

    // ---- QUARRELS

    public int quarrel(int a, int b) {
        int bad = checkCouple(a, b);
        if (bad != 0) {
            return no(bad);
        }
        return yes(told.clash(a, b) ? 1 : 0);
    }

    public int quarrels() {
        return yes(told.countClashes());
    }

    public int shown(int a, int b) {
        int bad = checkCouple(a, b);
        if (bad == 0 && !told.clash(a, b)) {
            bad = NOTHING;
        }
        if (bad != 0) {
            return no(bad);
        }
        return yes(finder.keepClash(told.rules[a], told.rules[b]));
    }

    public int foundAt(int k) {
        if (!within(k, 0, finder.foundSize - 1)) {
            return no(NOTHING);
        }
        return yes(finder.found[k]);
    }

    public int fewest() {
        return yes(Integer.bitCount(told.leastCover()));
    }

    public int fewestSet() {
        return yes(told.leastCover());
    }

    // ---- looked for

    public int shortest(int v, int person, int season) {
        if (!isFor(person, season)) {
            return no(NO_SUCH);
        }
        if (!isValue(v)) {
            return no(BAD_NUMBER);
        }
        int size = finder.findShortest(v, person, season);
        return size == NONE ? no(NOTHING) : yes(size);
    }

    public int rows(int n, int v, int person, int season) {
        if (!isFor(person, season)) {
            return no(NO_SUCH);
        }
        if (!within(n, 1, Finder.LONGEST) || !isValue(v)) {
            return no(BAD_NUMBER);
        }
        return yes(finder.countRows(n, v, person, season));
    }

    public int lucky() {
        int size = finder.findLucky();
        return size == NONE ? no(NOTHING) : yes(size);
    }

    public int stock(int sum, int person, int season) {
        if (!isFor(person, season)) {
            return no(NO_SUCH);
        }
        if (!isValue(sum)) {
            return no(BAD_NUMBER);
        }
        int price = finder.findStock(sum, person, season);
        return price == NONE ? no(NOTHING) : yes(price);
    }

    public int stockSet() {
        return finder.foundStock == NONE ? no(NOTHING) : yes(finder.foundStock);
    }

    public int whose(int dream, int season, int v) {
        if (!isReading(dream, NONE, season)) {
            return no(NO_SUCH);
        }
        int set = 0;
        for (int p = 0; p < told.counts[PERSON]; p++) {
            if (reader.readDream(dream, p, season) == v) {
                set |= 1 << p;
            }
        }
        return yes(set);
    }

    public int when(int dream, int person, int v) {
        if (!isReading(dream, person, NONE)) {
            return no(NO_SUCH);
        }
        int set = 0;
        for (int s = 0; s < told.counts[SEASON]; s++) {
            if (reader.readDream(dream, person, s) == v) {
                set |= 1 << s;
            }
        }
        return yes(set);
    }

    public int twin(int dream) {
        if (!has(DREAM, dream)) {
            return no(NO_SUCH);
        }
        int other = finder.findTwin(dream);
        return other == NONE ? no(NOTHING) : yes(other);
    }

    public int bargain(int person, int season) {
        if (!isFor(person, season)) {
            return no(NO_SUCH);
        }
        int best = finder.findBargain(person, season);
        return best == NONE ? no(NOTHING) : yes(best);
    }

    // ---- WEEKS

    public boolean week(int n, int person, int season) {
        int bad = checkWeek(n, 0, person, season);
        if (bad != 0) {
            return refuse(bad);
        }
        odds.tellMean(n, person, season);
        return agree();
    }

    public boolean atLeast(int n, int v, int person, int season) {
        int bad = checkWeek(n, v, person, season);
        if (bad != 0) {
            return refuse(bad);
        }
        odds.tellOdds(n, v, person, season);
        return agree();
    }

    // ---- NIGHTS

    public int live(int seed) {
        if (!within(seed, 0, MOST_SEED)) {
            return no(BAD_NUMBER);
        }
        if (!plan.there) {
            return no(NOTHING);
        }
        int steps = runner.run(seed);
        runner.keepTally();
        return yes(steps);
    }

    public int lived(int what) {
        if (!within(what, 0, Runner.TALLIES - 1)) {
            return no(BAD_NUMBER);
        }
        return runner.hasLived ? yes(runner.keptTally[what]) : no(NOTHING);
    }

    public boolean mean(int person, int seed, int many) {
        if (!has(PERSON, person)) {
            return refuse(NO_SUCH);
        }
        if (!within(many, 1, 20) || !within(seed, 0, MOST_SEED - many + 1)) {
            return refuse(BAD_NUMBER);
        }
        if (!plan.there) {
            return refuse(NOTHING);
        }
        odds.tell(runner.addSums(person, seed, many), many);
        return agree();
    }

    // ---- MARKS

    public int mark() {
        if (marks >= MOST_MARKS) {
            return no(TOO_MANY);
        }
        markedTold[marks].copyFrom(told);
        markedLife[marks].copyFrom(life);
        markedPlan[marks].copyFrom(plan);
        marks++;
        return yes(marks);
    }

    public int back() {
        if (marks <= 0) {
            return no(NOTHING);
        }
        marks--;
        told.copyFrom(markedTold[marks]);
        life.copyFrom(markedLife[marks]);
        plan.copyFrom(markedPlan[marks]);
        return yes(marks);
    }

    // ---- what the calls share

    private int yes(int answer) {
        latest = 0;
        return answer;
    }

    private int no(int status) {
        latest = status;
        return NONE;
    }

    private boolean agree() {
        latest = 0;
        return true;
    }

    private boolean refuse(int status) {
        latest = status;
        return false;
    }

    private boolean has(int kind, int number) {
        return number >= 0 && number < told.counts[kind];
    }

    private boolean isFor(int person, int season) {
        return (person == NONE || has(PERSON, person)) && (season == NONE || has(SEASON, season));
    }

    private boolean isReading(int dream, int person, int season) {
        return has(DREAM, dream) && isFor(person, season);
    }

    private int checkCouple(int a, int b) {
        if (!has(RULE, a) || !has(RULE, b)) {
            return NO_SUCH;
        }
        return a == b ? BAD_NUMBER : 0;
    }

    private int checkWeek(int n, int v, int person, int season) {
        if (!isFor(person, season)) {
            return NO_SUCH;
        }
        if (!within(n, 1, Odds.LONGEST_WEEK) || !isValue(v)) {
            return BAD_NUMBER;
        }
        return told.counts[DREAM] == 0 ? NOTHING : 0;
    }

    /** The first n numbers come to the reader's row, unless one of them is no thing. */
    private boolean takeRow(long[] numbers, int n) {
        for (int k = 0; k < n; k++) {
            if (numbers[k] < 0 || numbers[k] >= told.counts[THING]) {
                return false;
            }
            reader.row[k] = (int) numbers[k];
        }
        return true;
    }

    private static boolean within(int v, int least, int most) {
        return v >= least && v <= most;
    }

    private static boolean isValue(int v) {
        return within(v, -MOST_VALUE, MOST_VALUE);
    }

    private static boolean isIn(int set, int number) {
        return (set >> number & 1) != 0;
    }

    private static void copyRows(int[][] from, int[][] to) {
        for (int i = 0; i < from.length && i < to.length; i++) {
            copyRow(from[i], to[i]);
        }
    }

    private static void copyRow(int[] from, int[] to) {
        System.arraycopy(from, 0, to, 0, Math.min(from.length, to.length));
    }

    /** Four rows of numbers of one of four sorts. */
    private static final class Trays {
        static final int COUNT = 4;
        static final int LONGEST = 60;

        final long[][] numbers = new long[COUNT][LONGEST];
        final int[] sorts = new int[COUNT];
        final int[] lengths = new int[COUNT];

        Trays() {
            Arrays.fill(lengths, NONE);
        }

        boolean isTray(int tray) {
            return within(tray, 0, COUNT - 1);
        }

        int check(int tray) {
            if (!isTray(tray)) {
                return NO_TRAY;
            }
            return lengths[tray] == NONE ? MISSING : 0;
        }

        int checkBoth(int tray, int to) {
            if (!isTray(tray) || !isTray(to)) {
                return NO_TRAY;
            }
            if (lengths[tray] == NONE || lengths[to] == NONE) {
                return MISSING;
            }
            return sorts[tray] == sorts[to] ? 0 : UNLIKE;
        }

        boolean hasPlace(int tray, int place) {
            return within(place, 0, lengths[tray] - 1);
        }

        boolean hasRun(int tray, int from, int many) {
            return from >= 0 && (long) from + many <= lengths[tray];
        }

        void lay(int tray, int sort, int many) {
            Arrays.fill(numbers[tray], 0L);
            sorts[tray] = sort;
            lengths[tray] = many;
        }

        void put(int tray, int place, long v) {
            switch (sorts[tray]) {
                case 0:
                    numbers[tray][place] = (byte) v;
                    break;
                case 1:
                    numbers[tray][place] = (short) v;
                    break;
                case 2:
                    numbers[tray][place] = (int) v;
                    break;
                default:
                    numbers[tray][place] = v;
                    break;
            }
        }
    }

    /** The tape, the tokens along it, and the fault that was found in it. */
    private static final class Scanner {
        static final int MOST_BYTES = 900;
        static final int BYTES_A_FEED = 20;
        static final int LONGEST_NAME = 8;
        static final int LONGEST_NUMBER = 4;
        static final int KEYWORD_COUNT = 28;
        static final String KEYWORDS = "thing person season rule note dream widow turns of means less by unless for in strikes costs chance night any strike print when loop stop end sum worn ";

        // Kinds of tokens.
        static final int TEXT_END = 0;
        static final int WORD = 1;
        static final int NUMBER = 2;
        static final int SIGN = 3;
        static final int NO_TOKEN = 4;

        final byte[] tape = new byte[MOST_BYTES];
        int fed;
        int faultKind = NONE;
        int faultPlace = NONE;
        private final long[] keywords = new long[KEYWORD_COUNT];
        // The tokens of the text, the last one its end; token is the one that is looked at.
        private final int[] kinds = new int[MOST_BYTES + 1];
        private final int[] places = new int[MOST_BYTES + 1];
        /** A number's value, a sign's byte, the number of a keyword. */
        private final int[] values = new int[MOST_BYTES + 1];
        /** The letters of a word, packed, so that words are compared as numbers; NONE if it is too long for a name. */
        private final long[] letters = new long[MOST_BYTES + 1];
        private int token;
        private int limit;

        Scanner() {
            int keyword = 0;
            long packed = 0;
            for (int i = 0; i < KEYWORDS.length() && keyword < KEYWORD_COUNT; i++) {
                int c = KEYWORDS.charAt(i);
                if (isLetter(c)) {
                    packed = pack(packed, c);
                } else {
                    keywords[keyword] = packed;
                    keyword++;
                    packed = 0;
                }
            }
        }

        boolean hasRoom() {
            return fed + BYTES_A_FEED <= MOST_BYTES;
        }

        void append(int four) {
            for (int shift = 24; shift >= 0 && fed < MOST_BYTES; shift -= 8) {
                tape[fed] = (byte) (four >> shift);
                fed++;
            }
        }

        void start(int n) {
            limit = Math.min(n, MOST_BYTES);
            token = 0;
            faultKind = 0;
            faultPlace = NONE;
            int count = 0;
            int behind = 0;
            for (int place = 0; place < limit; place++) {
                if (place >= behind && !isBlank(tape[place])) {
                    behind = scanToken(count, place);
                    count++;
                }
            }
            kinds[count] = TEXT_END;
            places[count] = limit;
        }

        /** The token that begins at a place becomes the one of a number: the place behind it. */
        private int scanToken(int number, int place) {
            places[number] = place;
            if (isLetter(tape[place])) {
                return scanWord(number, place);
            }
            if (isDigit(tape[place])) {
                return scanNumber(number, place);
            }
            kinds[number] = isSign(tape[place]) ? SIGN : NO_TOKEN;
            values[number] = tape[place];
            return place + 1;
        }

        private int scanWord(int number, int place) {
            long packed = 0;
            int i = place;
            while (i < limit && isLetter(tape[i])) {
                if (i - place < LONGEST_NAME) {
                    packed = pack(packed, tape[i]);
                }
                i++;
            }
            boolean isShort = i - place <= LONGEST_NAME;
            kinds[number] = WORD;
            letters[number] = isShort ? packed : NONE;
            values[number] = isShort ? keywordOf(packed) : NONE;
            return i;
        }

        private int scanNumber(int number, int place) {
            int sum = 0;
            int i = place;
            while (i < limit && isDigit(tape[i])) {
                if (i - place < LONGEST_NUMBER) {
                    sum = sum * 10 + tape[i] - '0';
                }
                i++;
            }
            kinds[number] = i - place <= LONGEST_NUMBER ? NUMBER : NO_TOKEN;
            values[number] = sum;
            return i;
        }

        private int keywordOf(long packed) {
            for (int i = 0; i < KEYWORD_COUNT; i++) {
                if (keywords[i] == packed) {
                    return i;
                }
            }
            return NONE;
        }

        boolean isAtEnd() {
            return kinds[token] == TEXT_END;
        }

        void advance() {
            if (kinds[token] != TEXT_END) {
                token++;
            }
        }

        /** The keyword that stands here, or NONE. */
        int keyword() {
            return kinds[token] == WORD ? values[token] : NONE;
        }

        boolean isName() {
            return kinds[token] == WORD && letters[token] != NONE && values[token] == NONE;
        }

        /** The token that stands here is faulty; what is no token at all is so ahead of any other fault. */
        boolean fail(int fault) {
            faultKind = kinds[token] == NO_TOKEN ? 1 : fault;
            faultPlace = places[token];
            return false;
        }

        boolean takeIf(int keyword) {
            if (keyword() != keyword) {
                return false;
            }
            advance();
            return true;
        }

        boolean take(int keyword) {
            return takeIf(keyword) || fail(2);
        }

        boolean takeStop() {
            if (kinds[token] != SIGN || values[token] != ';') {
                return fail(2);
            }
            advance();
            return true;
        }

        /** Which of < = > stands here comes to a place of a row, as -1, 0, 1. */
        boolean takeCompare(int[] row, int field) {
            if (kinds[token] != SIGN || values[token] == ';') {
                return fail(2);
            }
            row[field] = values[token] - '=';
            advance();
            return true;
        }

        boolean takeNumber(int least, int most, int[] row, int field) {
            if (kinds[token] != NUMBER) {
                return fail(2);
            }
            if (!within(values[token], least, most)) {
                return fail(4);
            }
            row[field] = values[token];
            advance();
            return true;
        }

        /** Likewise, below 0 if it is told as less. */
        boolean takeSigned(int most, int[] row, int field) {
            boolean below = takeIf(LESS);
            if (!takeNumber(0, most, row, field)) {
                return false;
            }
            row[field] = below ? -row[field] : row[field];
            return true;
        }

        boolean takeNewName(Told among, int sort) {
            if (!isName()) {
                return fail(2);
            }
            if (among.isTaken(letters[token])) {
                return fail(3);
            }
            among.addName(letters[token], sort);
            advance();
            return true;
        }

        /** The number of what is named here comes to a place of a row. */
        boolean takeName(Told among, int sort, int[] row, int field) {
            if (!seesName(among, sort, row, field)) {
                return false;
            }
            advance();
            return true;
        }

        /** Likewise, but the name stays to be taken. */
        boolean seesName(Told among, int sort, int[] row, int field) {
            if (!isName()) {
                return fail(2);
            }
            row[field] = among.numberOf(letters[token], sort);
            return row[field] != NONE || fail(3);
        }

        private static long pack(long packed, int letter) {
            return packed * 32 + letter - 'a' + 1;
        }

        private static boolean isBlank(int c) {
            return c == 10 || c == 32;
        }

        private static boolean isLetter(int c) {
            return c >= 'a' && c <= 'z';
        }

        private static boolean isDigit(int c) {
            return c >= '0' && c <= '9';
        }

        private static boolean isSign(int c) {
            return c == ';' || c == '<' || c == '=' || c == '>';
        }
    }

    /** What a book says, and what follows from its words alone. */
    private static final class Told {
        final int[] counts = new int[6];
        final int[] widow = new int[MOST_PERSONS];
        final int[] turning = new int[MOST_SEASONS];
        final int[][] rules = new int[MOST_RULES][6];
        final int[][] notes = new int[MOST_NOTES][2];
        final int[][] dreams = new int[MOST_DREAMS][LONGEST_DREAM];
        final int[] sizes = new int[MOST_DREAMS];
        final int[] costs = new int[MOST_DREAMS];
        final int[] chances = new int[MOST_DREAMS];
        final int[] struckOf = new int[MOST_RULES];
        final int[] strikersOf = new int[MOST_RULES];
        /** The rules of each thing, in their order. */
        final int[][] rulesOf = new int[MOST_THINGS][MOST_RULES];
        final int[] rulesOfCount = new int[MOST_THINGS];
        int stands;
        int fallen;
        private final long[] names = new long[MOST_NAMES];
        private final int[] nameSorts = new int[MOST_NAMES];
        private final int[] nameNumbers = new int[MOST_NAMES];
        private int nameCount;
        private final int[] clashes = new int[MOST_RULES];

        void clear() {
            Arrays.fill(counts, 0);
            nameCount = 0;
        }

        void copyFrom(Told other) {
            copyRow(other.counts, counts);
            copyRow(other.widow, widow);
            copyRow(other.turning, turning);
            copyRows(other.rules, rules);
            copyRows(other.notes, notes);
            copyRows(other.dreams, dreams);
            copyRow(other.sizes, sizes);
            copyRow(other.costs, costs);
            copyRow(other.chances, chances);
            copyRow(other.struckOf, struckOf);
            copyRow(other.strikersOf, strikersOf);
            copyRows(other.rulesOf, rulesOf);
            copyRow(other.rulesOfCount, rulesOfCount);
            stands = other.stands;
            fallen = other.fallen;
            System.arraycopy(other.names, 0, names, 0, MOST_NAMES);
            copyRow(other.nameSorts, nameSorts);
            copyRow(other.nameNumbers, nameNumbers);
            nameCount = other.nameCount;
        }

        boolean isTaken(long letters) {
            for (int i = 0; i < nameCount; i++) {
                if (names[i] == letters) {
                    return true;
                }
            }
            return false;
        }

        void addName(long letters, int sort) {
            if (nameCount < MOST_NAMES) {
                names[nameCount] = letters;
                nameSorts[nameCount] = sort;
                nameNumbers[nameCount] = counts[sort];
                nameCount++;
            }
            counts[sort]++;
        }

        int numberOf(long letters, int sort) {
            for (int i = 0; i < nameCount; i++) {
                if (names[i] == letters && nameSorts[i] == sort) {
                    return nameNumbers[i];
                }
            }
            return NONE;
        }

        int allChances() {
            int sum = 0;
            for (int d = 0; d < counts[DREAM]; d++) {
                sum += chances[d];
            }
            return sum;
        }

        boolean hasNote(int striker, int struck) {
            for (int i = 0; i < counts[NOTE]; i++) {
                if (notes[i][0] == striker && notes[i][1] == struck) {
                    return true;
                }
            }
            return false;
        }

        /** Works out what the readings and the standing of rules need; to be called when all is told. */
        void settle() {
            Arrays.fill(rulesOfCount, 0);
            Arrays.fill(struckOf, 0);
            Arrays.fill(strikersOf, 0);
            for (int r = 0; r < counts[RULE]; r++) {
                int thing = rules[r][OF_THING];
                rulesOf[thing][rulesOfCount[thing]] = r;
                rulesOfCount[thing]++;
            }
            for (int i = 0; i < counts[NOTE]; i++) {
                struckOf[notes[i][0]] |= 1 << notes[i][1];
                strikersOf[notes[i][1]] |= 1 << notes[i][0];
            }
            settleStanding();
        }

        private void settleStanding() {
            stands = 0;
            fallen = 0;
            // Each round but the last settles a rule, so that there are no more rounds than rules.
            for (int round = 0; round < MOST_RULES; round++) {
                for (int r = 0; r < counts[RULE]; r++) {
                    if ((strikersOf[r] & stands) != 0) {
                        fallen |= 1 << r;
                    } else if ((strikersOf[r] & ~fallen) == 0) {
                        stands |= 1 << r;
                    }
                }
            }
        }

        /** 1 behind the greatest set of rules as a number. */
        int sets() {
            return 1 << counts[RULE];
        }

        private boolean isStable(int set) {
            for (int r = 0; r < counts[RULE]; r++) {
                if (isIn(set, r) == ((strikersOf[r] & set) != 0)) {
                    return false;
                }
            }
            return true;
        }

        int countStable() {
            int count = 0;
            for (int set = 0; set < sets(); set++) {
                if (isStable(set)) {
                    count++;
                }
            }
            return count;
        }

        int findStable(int k) {
            int ahead = 0;
            for (int set = 0; set < sets() && ahead <= k; set++) {
                if (isStable(set)) {
                    if (ahead == k) {
                        return set;
                    }
                    ahead++;
                }
            }
            return NONE;
        }

        boolean clash(int a, int b) {
            int[] one = rules[a];
            int[] other = rules[b];
            boolean against = one[MEANS] > 0 && other[MEANS] < 0 || one[MEANS] < 0 && other[MEANS] > 0;
            return against && one[OF_THING] == other[OF_THING]
                && canMeet(one[FOR_PERSON], other[FOR_PERSON]) && canMeet(one[IN_SEASON], other[IN_SEASON])
                && fitsBeside(one, other) && fitsBeside(other, one);
        }

        private static boolean canMeet(int one, int other) {
            return one == NONE || other == NONE || one == other;
        }

        private static boolean fitsBeside(int[] one, int[] other) {
            int unless = one[UNLESS];
            return unless == NONE || unless != one[OF_THING] && unless != one[BY] && unless != other[BY];
        }

        private int clashesOf(int rule) {
            int set = 0;
            for (int r = 0; r < counts[RULE]; r++) {
                if (clash(rule, r)) {
                    set |= 1 << r;
                }
            }
            return set;
        }

        int countClashes() {
            int sum = 0;
            for (int r = 0; r < counts[RULE]; r++) {
                sum += Integer.bitCount(clashesOf(r));
            }
            return sum / 2;
        }

        /** The least set of rules without which no two clash. */
        int leastCover() {
            int best = sets() - 1;
            for (int r = 0; r < counts[RULE]; r++) {
                clashes[r] = clashesOf(r);
            }
            for (int set = 0; set < sets(); set++) {
                if (Integer.bitCount(set) < Integer.bitCount(best) && covers(set)) {
                    best = set;
                }
            }
            return best;
        }

        private boolean covers(int set) {
            for (int r = 0; r < counts[RULE]; r++) {
                if (!isIn(set, r) && (clashes[r] & ~set) != 0) {
                    return false;
                }
            }
            return true;
        }
    }

    /** Reads the text of a book from the tape into a draft. */
    private static final class BookParser {
        final Told draft = new Told();
        private final Scanner scanner;
        /** Takes the number of a thing that a dream has no room for. */
        private final int[] surplus = new int[1];

        BookParser(Scanner scanner) {
            this.scanner = scanner;
        }

        boolean parse(int n) {
            draft.clear();
            scanner.start(n);
            for (int parts = 0; parts < Scanner.MOST_BYTES && !scanner.isAtEnd(); parts++) {
                if (!parsePart() || !scanner.takeStop()) {
                    return false;
                }
            }
            draft.settle();
            return true;
        }

        private boolean parsePart() {
            int kind = scanner.keyword();
            if (!within(kind, THING, DREAM)) {
                return scanner.fail(2);
            }
            if (draft.counts[kind] >= most(kind)) {
                return scanner.fail(6);
            }
            scanner.advance();
            switch (kind) {
                case THING:
                    return scanner.takeNewName(draft, THING);
                case PERSON:
                    return parseOne(PERSON, draft.widow, WIDOW);
                case SEASON:
                    return parseOne(SEASON, draft.turning, TURNS);
                case RULE:
                    return parseRule();
                case NOTE:
                    return parseNote();
                default:
                    return parseDream();
            }
        }

        private static int most(int kind) {
            switch (kind) {
                case THING:
                    return MOST_THINGS;
                case PERSON:
                    return MOST_PERSONS;
                case SEASON:
                    return MOST_SEASONS;
                case RULE:
                    return MOST_RULES;
                case NOTE:
                    return MOST_NOTES;
                default:
                    return MOST_DREAMS;
            }
        }

        private boolean parseOne(int kind, int[] marked, int keyword) {
            int number = draft.counts[kind];
            if (!scanner.takeNewName(draft, kind)) {
                return false;
            }
            marked[number] = scanner.takeIf(keyword) ? 1 : 0;
            return true;
        }

        private boolean parseRule() {
            int[] rule = draft.rules[draft.counts[RULE]];
            return scanner.takeNewName(draft, RULE)
                && scanner.take(OF) && scanner.takeName(draft, THING, rule, OF_THING)
                && scanner.take(MEANING) && scanner.takeSigned(MOST_MEANS, rule, MEANS)
                && parseOption(rule, BY, NEXT_TO, THING)
                && parseOption(rule, UNLESS, UNLESS_THERE, THING)
                && parseOption(rule, FOR_PERSON, FOR, PERSON)
                && parseOption(rule, IN_SEASON, IN, SEASON);
        }

        private boolean parseOption(int[] rule, int field, int keyword, int kind) {
            rule[field] = NONE;
            return !scanner.takeIf(keyword) || scanner.takeName(draft, kind, rule, field);
        }

        private boolean parseNote() {
            int[] note = draft.notes[draft.counts[NOTE]];
            if (!scanner.takeName(draft, RULE, note, 0) || !scanner.take(STRIKES)
                || !scanner.seesName(draft, RULE, note, 1)) {
                return false;
            }
            if (draft.hasNote(note[0], note[1])) {
                return scanner.fail(5);
            }
            draft.counts[NOTE]++;
            scanner.advance();
            return true;
        }

        private boolean parseDream() {
            int dream = draft.counts[DREAM];
            if (!scanner.takeNewName(draft, DREAM) || !parseThings(dream)) {
                return false;
            }
            draft.costs[dream] = 0;
            draft.chances[dream] = 1;
            if (scanner.takeIf(COSTS) && !scanner.takeNumber(0, 99, draft.costs, dream)) {
                return false;
            }
            return !scanner.takeIf(CHANCE) || scanner.takeNumber(1, 99, draft.chances, dream);
        }

        private boolean parseThings(int dream) {
            int size = 0;
            while (size == 0 || size < LONGEST_DREAM && scanner.isName()) {
                if (!scanner.takeName(draft, THING, draft.dreams[dream], size)) {
                    return false;
                }
                size++;
            }
            draft.sizes[dream] = size;
            return !scanner.isName() || scanner.seesName(draft, THING, surplus, 0) && scanner.fail(6);
        }
    }

    /** The text of nights, step by step. */
    private static final class Plan {
        static final int MOST_STEPS = 30;
        static final int MOST_ROWS = 2 * MOST_STEPS;

        // Places in the row of a step.
        static final int WORD = 0;
        static final int WHICH = 1;
        static final int FOR_WHOM = 2;
        static final int IN_WHICH = 3;
        static final int TEST = 3;
        static final int NUMBER = 4;
        static final int PARTNER = 5;

        boolean there;
        int steps;
        int size;
        /** The steps and the ends; a begin and its end are each other's PARTNER. */
        final int[][] rows = new int[MOST_ROWS][6];

        void clear() {
            there = false;
            steps = 0;
            size = 0;
        }

        void copyFrom(Plan other) {
            there = other.there;
            steps = other.steps;
            size = other.size;
            copyRows(other.rows, rows);
        }
    }

    /** Reads the text of nights from the tape into a draft. */
    private static final class PlanParser {
        static final int DEEPEST = 3;

        final Plan draft = new Plan();
        private final Scanner scanner;
        private final Told told;
        private final int[] open = new int[DEEPEST];
        private int depth;

        PlanParser(Scanner scanner, Told told) {
            this.scanner = scanner;
            this.told = told;
        }

        boolean parse(int n) {
            draft.clear();
            draft.there = true;
            depth = 0;
            scanner.start(n);
            for (int rows = 0; rows < Scanner.MOST_BYTES && !scanner.isAtEnd(); rows++) {
                if (!parseRow() || !scanner.takeStop()) {
                    return false;
                }
            }
            return depth == 0 || scanner.fail(2);
        }

        private boolean parseRow() {
            int word = scanner.keyword();
            if (word == END) {
                return parseEnd();
            }
            if (!within(word, NIGHT, STOP)) {
                return scanner.fail(2);
            }
            if (draft.steps >= Plan.MOST_STEPS) {
                return scanner.fail(6);
            }
            boolean begins = word == WHEN || word == LOOP;
            if (begins && depth >= DEEPEST) {
                return scanner.fail(7);
            }
            if (begins) {
                open[depth] = draft.size;
                depth++;
            }
            draft.steps++;
            scanner.advance();
            return parseStep(word, newRow(word));
        }

        private int[] newRow(int word) {
            int[] row = draft.rows[draft.size];
            row[Plan.WORD] = word;
            draft.size++;
            return row;
        }

        private boolean parseEnd() {
            if (depth == 0) {
                return scanner.fail(2);
            }
            depth--;
            draft.rows[open[depth]][Plan.PARTNER] = draft.size;
            newRow(END)[Plan.PARTNER] = open[depth];
            scanner.advance();
            return true;
        }

        private boolean parseStep(int word, int[] row) {
            switch (word) {
                case NIGHT:
                    return scanner.takeName(told, DREAM, row, Plan.WHICH) && parseSleeper(row);
                case ANY:
                    return parseSleeper(row);
                case STRIKE:
                case PRINT:
                    return scanner.takeName(told, RULE, row, Plan.WHICH);
                case WHEN:
                    return parseTest(row);
                case LOOP:
                    return scanner.takeNumber(1, 99, row, Plan.NUMBER);
                default:
                    return true;
            }
        }

        private boolean parseSleeper(int[] row) {
            if (!scanner.take(FOR) || !scanner.takeName(told, PERSON, row, Plan.FOR_WHOM)) {
                return false;
            }
            row[Plan.IN_WHICH] = NONE;
            return !scanner.takeIf(IN) || scanner.takeName(told, SEASON, row, Plan.IN_WHICH);
        }

        private boolean parseTest(int[] row) {
            if (scanner.takeIf(WORN)) {
                row[Plan.FOR_WHOM] = NONE;
                return scanner.takeName(told, RULE, row, Plan.WHICH);
            }
            return scanner.take(SUM) && scanner.takeName(told, PERSON, row, Plan.FOR_WHOM)
                && scanner.takeCompare(row, Plan.TEST) && scanner.takeSigned(MOST_SUM, row, Plan.NUMBER);
        }
    }

    /** What became of a book by strikes and nights. */
    private static final class Life {
        final int[] used = new int[MOST_RULES];
        final int[] sums = new int[MOST_PERSONS];
        int struck;
        int dreamt;

        void clear() {
            Arrays.fill(used, 0);
            Arrays.fill(sums, 0);
            struck = 0;
            dreamt = 0;
        }

        void copyFrom(Life other) {
            copyRow(other.used, used);
            copyRow(other.sums, sums);
            struck = other.struck;
            dreamt = other.dreamt;
        }

        boolean strikeOut(int rule) {
            if (isIn(struck, rule)) {
                return false;
            }
            struck |= 1 << rule;
            return true;
        }
    }

    /** Reads rows of things. */
    private static final class Reader {
        final int[] row = new int[LONGEST_ROW];
        /** The rules that counted in the row read latest, place by place. */
        final int[] counted = new int[LONGEST_ROW];
        private final Told told;
        private final Life life;

        Reader(Told told, Life life) {
            this.told = told;
            this.life = life;
        }

        int inForce() {
            return told.stands & ~life.struck;
        }

        int worth(int rule) {
            int means = told.rules[rule][MEANS];
            int used = life.used[rule];
            if (means > 0) {
                return means > used ? means - used : 0;
            }
            return -means > used ? means + used : 0;
        }

        /** The rules in force that name no other person or season. */
        int openFor(int person, int season) {
            int force = inForce();
            int set = 0;
            for (int r = 0; r < told.counts[RULE]; r++) {
                int[] rule = told.rules[r];
                boolean fits = (rule[FOR_PERSON] == NONE || rule[FOR_PERSON] == person)
                    && (rule[IN_SEASON] == NONE || rule[IN_SEASON] == season);
                if (fits && isIn(force, r)) {
                    set |= 1 << r;
                }
            }
            return set;
        }

        /** -1 if all is the other way, else 1. */
        int sign(int person, int season) {
            boolean widow = person != NONE && told.widow[person] == 1;
            boolean turning = season != NONE && told.turning[season] == 1;
            return widow == turning ? 1 : -1;
        }

        int readDream(int dream, int person, int season) {
            return sign(person, season) * addWorths(told.dreams[dream], told.sizes[dream], openFor(person, season));
        }

        /** What the first n things mean by the rules of a set, not turned. */
        int addWorths(int[] things, int n, int open) {
            int present = 0;
            for (int k = 0; k < n; k++) {
                present |= 1 << things[k];
            }
            int sum = 0;
            for (int k = 0; k < n; k++) {
                int beside = (k > 0 ? 1 << things[k - 1] : 0) | (k + 1 < n ? 1 << things[k + 1] : 0);
                counted[k] = firstFit(things[k], open, beside, present);
                if (counted[k] != NONE) {
                    sum += worth(counted[k]);
                }
            }
            return sum;
        }

        private int firstFit(int thing, int open, int beside, int present) {
            int[] candidates = told.rulesOf[thing];
            for (int i = 0; i < told.rulesOfCount[thing]; i++) {
                int r = candidates[i];
                if ((open >> r & 1) != 0
                    && (told.rules[r][BY] == NONE || (beside >> told.rules[r][BY] & 1) != 0)
                    && (told.rules[r][UNLESS] == NONE || (present >> told.rules[r][UNLESS] & 1) == 0)) {
                    return r;
                }
            }
            return NONE;
        }

        int countedIn(int dream, int person, int season) {
            readDream(dream, person, season);
            int set = 0;
            for (int k = 0; k < told.sizes[dream]; k++) {
                if (counted[k] != NONE) {
                    set |= 1 << counted[k];
                }
            }
            return set;
        }

        /** Uses the rules that counted in the first n places of the row read latest: how many. */
        int wear(int n) {
            int count = 0;
            for (int k = 0; k < n; k++) {
                if (counted[k] != NONE) {
                    life.used[counted[k]]++;
                    count++;
                }
            }
            return count;
        }
    }

    /** Looks for rows and dreams. */
    private static final class Finder {
        static final int LONGEST = 4;
        static final int LONGEST_LUCKY = 3;
        static final int MOST_HEARERS = (MOST_PERSONS + 1) * (MOST_SEASONS + 1);

        final int[] found = new int[LONGEST];
        int foundSize;
        int foundStock = NONE;
        private final Told told;
        private final Life life;
        private final Reader reader;
        private final Life before = new Life();
        private final int[] row = new int[LONGEST];
        // For nobody and each person, in none and each season: the rules that may fit, and which way all is.
        private final int[] openFor = new int[MOST_HEARERS];
        private final int[] signFor = new int[MOST_HEARERS];
        private int hearers;

        Finder(Told told, Life life, Reader reader) {
            this.told = told;
            this.life = life;
            this.reader = reader;
        }

        private void gatherHearers() {
            hearers = 0;
            for (int p = NONE; p < told.counts[PERSON]; p++) {
                for (int s = NONE; s < told.counts[SEASON] && hearers < MOST_HEARERS; s++) {
                    openFor[hearers] = reader.openFor(p, s);
                    signFor[hearers] = reader.sign(p, s);
                    hearers++;
                }
            }
        }

        int uncounted() {
            int set = told.sets() - 1;
            for (int p = NONE; p < told.counts[PERSON]; p++) {
                for (int s = NONE; s < told.counts[SEASON]; s++) {
                    for (int d = 0; d < told.counts[DREAM]; d++) {
                        set &= ~reader.countedIn(d, p, s);
                    }
                }
            }
            return set;
        }

        int keepClash(int[] one, int[] other) {
            foundSize = 0;
            if (one[BY] != NONE) {
                keep(one[BY]);
            }
            keep(one[OF_THING]);
            if (other[BY] != NONE && other[BY] != one[BY]) {
                keep(other[BY]);
            }
            return foundSize;
        }

        private void keep(int thing) {
            found[foundSize] = thing;
            foundSize++;
        }

        private int keepRow(int n) {
            copyRow(row, found);
            foundSize = n;
            return n;
        }

        /** The row becomes the first one of n things: how many such rows there are. */
        private int startRows(int n) {
            Arrays.fill(row, 0);
            int all = 1;
            for (int k = 0; k < n; k++) {
                all *= told.counts[THING];
            }
            return all;
        }

        private void nextRow(int n) {
            for (int k = n - 1; k >= 0; k--) {
                if (row[k] + 1 < told.counts[THING]) {
                    row[k]++;
                    return;
                }
                row[k] = 0;
            }
        }

        int findShortest(int v, int person, int season) {
            int open = reader.openFor(person, season);
            int wanted = reader.sign(person, season) * v;
            for (int n = 1; n <= LONGEST; n++) {
                int all = startRows(n);
                for (int i = 0; i < all; i++) {
                    if (reader.addWorths(row, n, open) == wanted) {
                        return keepRow(n);
                    }
                    nextRow(n);
                }
            }
            return NONE;
        }

        int countRows(int n, int v, int person, int season) {
            int open = reader.openFor(person, season);
            int wanted = reader.sign(person, season) * v;
            int all = startRows(n);
            int count = 0;
            for (int i = 0; i < all; i++) {
                if (reader.addWorths(row, n, open) == wanted) {
                    count++;
                }
                nextRow(n);
            }
            return count;
        }

        int findLucky() {
            gatherHearers();
            for (int n = 1; n <= LONGEST_LUCKY; n++) {
                int all = startRows(n);
                for (int i = 0; i < all; i++) {
                    if (isLuckyRow(n)) {
                        return keepRow(n);
                    }
                    nextRow(n);
                }
            }
            return NONE;
        }

        private boolean isLuckyRow(int n) {
            for (int h = 0; h < hearers; h++) {
                if (signFor[h] * reader.addWorths(row, n, openFor[h]) <= 0) {
                    return false;
                }
            }
            return true;
        }

        int findTwin(int dream) {
            gatherHearers();
            for (int d = 0; d < told.counts[DREAM]; d++) {
                if (d != dream && isTwin(d, dream)) {
                    return d;
                }
            }
            return NONE;
        }

        private boolean isTwin(int one, int other) {
            for (int h = 0; h < hearers; h++) {
                if (reader.addWorths(told.dreams[one], told.sizes[one], openFor[h])
                    != reader.addWorths(told.dreams[other], told.sizes[other], openFor[h])) {
                    return false;
                }
            }
            return true;
        }

        int findBargain(int person, int season) {
            int best = NONE;
            int bestReading = 0;
            for (int d = 0; d < told.counts[DREAM]; d++) {
                int value = reader.readDream(d, person, season);
                if (best == NONE || value * (told.costs[best] + 1) > bestReading * (told.costs[d] + 1)) {
                    best = d;
                    bestReading = value;
                }
            }
            return best;
        }

        /** What the cheapest set costs whose nights come to a sum, or NONE. */
        int findStock(int sum, int person, int season) {
            before.copyFrom(life);
            int least = NONE;
            int sets = 1 << told.counts[DREAM];
            for (int set = 0; set < sets; set++) {
                int price = priceOf(set);
                if ((least == NONE || price < least) && dreamAll(set, person, season) == sum) {
                    least = price;
                    foundStock = set;
                }
            }
            return least;
        }

        private int priceOf(int set) {
            int sum = 0;
            for (int d = 0; d < told.counts[DREAM]; d++) {
                sum += isIn(set, d) ? told.costs[d] : 0;
            }
            return sum;
        }

        private int dreamAll(int set, int person, int season) {
            int sum = 0;
            for (int d = 0; d < told.counts[DREAM]; d++) {
                if (isIn(set, d)) {
                    sum += reader.readDream(d, person, season);
                    reader.wear(told.sizes[d]);
                }
            }
            life.copyFrom(before);
            return sum;
        }
    }

    /** Weeks of nights by chances, and the fraction that is told. */
    private static final class Odds {
        static final int LONGEST_WEEK = 6;

        long above;
        long below = 1;
        private final Told told;
        private final Reader reader;
        private final int[] readings = new int[MOST_DREAMS];

        Odds(Told told, Reader reader) {
            this.told = told;
            this.reader = reader;
        }

        /** Tells a fraction; the divisor must be above 0. */
        void tell(long share, long whole) {
            long a = Math.abs(share);
            long b = whole;
            // Euclid's rests fall below a half in two rounds, so that 200 rounds are enough for any long.
            for (int round = 0; round < 200 && b != 0; round++) {
                long rest = a % b;
                a = b;
                b = rest;
            }
            if (a != 0) {
                above = share / a;
                below = whole / a;
            }
        }

        void tellMean(int n, int person, int season) {
            long sum = 0;
            for (int d = 0; d < told.counts[DREAM]; d++) {
                sum += (long) told.chances[d] * reader.readDream(d, person, season);
            }
            tell(n * sum, told.allChances());
        }

        void tellOdds(int n, int v, int person, int season) {
            long all = 1;
            for (int i = 0; i < n; i++) {
                all *= told.allChances();
            }
            for (int d = 0; d < told.counts[DREAM]; d++) {
                readings[d] = reader.readDream(d, person, season);
            }
            tell(countWays(0, n, v), all);
        }

        /**
         * In how many ways so many nights are dreams from number d on that come to v or more.
         * Nights of the same dreams in another order come to the same, so that all their orders are counted at once.
         */
        private long countWays(int d, int nights, int v) {
            if (nights == 0) {
                return v <= 0 ? 1 : 0;
            }
            if (d >= told.counts[DREAM]) {
                return 0;
            }
            long ways = 0;
            long places = 1;
            for (int often = 0; often <= nights; often++) {
                ways += places * countWays(d + 1, nights - often, v - often * readings[d]);
                // So many places among the nights, times the chances, for one night more of this dream.
                places = places * (nights - often) * told.chances[d] / (often + 1);
            }
            return ways;
        }
    }

    /** Lives the nights of a plan. */
    private static final class Runner {
        static final int MOST_STEPS = 300;
        static final int MOST_TURNS = 1000000;

        // What is counted, in the order of lived().
        static final int MISSED = 0;
        static final int DREAMT = 1;
        static final int ABOVE = 2;
        static final int COUNTED = 3;
        static final int LEFT = 4;
        static final int TALLIES = 5;

        boolean hasLived;
        final int[] keptTally = new int[TALLIES];
        private final int[] tally = new int[TALLIES];
        private final Told told;
        private final Life life;
        private final Plan plan;
        private final Reader reader;
        private final Life before = new Life();
        /** For each loop how often it is still to be gone through. */
        private final int[] roundsLeft = new int[Plan.MOST_ROWS];
        private int drawn;

        Runner(Told told, Life life, Plan plan, Reader reader) {
            this.told = told;
            this.life = life;
            this.plan = plan;
            this.reader = reader;
        }

        void keepTally() {
            copyRow(tally, keptTally);
            hasLived = true;
        }

        /** How many steps were come to. */
        int run(int seed) {
            Arrays.fill(tally, 0);
            drawn = seed;
            int steps = 0;
            int at = 0;
            for (int turn = 0; turn < MOST_TURNS && at < plan.size; turn++) {
                if (plan.rows[at][Plan.WORD] == END) {
                    at = leave(at);
                } else if (steps == MOST_STEPS) {
                    tally[LEFT] = 1;
                    return steps;
                } else {
                    steps++;
                    at = doStep(at);
                }
            }
            return steps;
        }

        private int leave(int at) {
            int begin = plan.rows[at][Plan.PARTNER];
            if (plan.rows[begin][Plan.WORD] == LOOP) {
                roundsLeft[begin]--;
                if (roundsLeft[begin] > 0) {
                    return begin + 1;
                }
            }
            return at + 1;
        }

        /** Does the step at a place: the place to go on at. */
        private int doStep(int at) {
            int[] row = plan.rows[at];
            boolean done = true;
            switch (row[Plan.WORD]) {
                case NIGHT:
                    done = dreamNight(row[Plan.WHICH], row[Plan.FOR_WHOM], row[Plan.IN_WHICH]);
                    break;
                case ANY:
                    done = told.counts[DREAM] > 0
                        && dreamNight(drawDream(), row[Plan.FOR_WHOM], row[Plan.IN_WHICH]);
                    break;
                case STRIKE:
                    done = life.strikeOut(row[Plan.WHICH]);
                    break;
                case PRINT:
                    done = life.used[row[Plan.WHICH]] > 0;
                    life.used[row[Plan.WHICH]] = 0;
                    break;
                case WHEN:
                    return holds(row) ? at + 1 : row[Plan.PARTNER] + 1;
                case LOOP:
                    roundsLeft[at] = row[Plan.NUMBER];
                    break;
                default:
                    return plan.size;
            }
            tally[MISSED] += done ? 0 : 1;
            return at + 1;
        }

        private boolean holds(int[] row) {
            if (row[Plan.FOR_WHOM] == NONE) {
                return reader.worth(row[Plan.WHICH]) == 0;
            }
            return Integer.signum(life.sums[row[Plan.FOR_WHOM]] - row[Plan.NUMBER]) == row[Plan.TEST];
        }

        private int drawDream() {
            drawn = (drawn * 2917 + 10613) % 65536;
            int chances = told.allChances();
            int rest = chances > 0 ? drawn / 8 % chances : 0;
            int d = 0;
            while (d + 1 < told.counts[DREAM] && rest >= told.chances[d]) {
                rest -= told.chances[d];
                d++;
            }
            return d;
        }

        /** A night, unless the sum would be too far from 0. */
        boolean dreamNight(int dream, int person, int season) {
            int value = reader.readDream(dream, person, season);
            int sum = life.sums[person] + value;
            if (!within(sum, -MOST_SUM, MOST_SUM)) {
                return false;
            }
            life.sums[person] = sum;
            life.dreamt++;
            tally[DREAMT]++;
            tally[ABOVE] += value > 0 ? 1 : 0;
            tally[COUNTED] += reader.wear(told.sizes[dream]);
            return true;
        }

        /** A person's sums behind the nights by seeds from one on, added up; all stays as it is. */
        long addSums(int person, int seed, int many) {
            long sum = 0;
            before.copyFrom(life);
            for (int i = 0; i < many; i++) {
                run(seed + i);
                sum += life.sums[person];
                life.copyFrom(before);
            }
            return sum;
        }
    }
}
