import java.math.BigInteger;
import java.util.ArrayList;
import java.util.Arrays;
import java.util.List;
import java.util.Random;
import java.util.TreeSet;

/**
 * Random runs of calls, each answer compared with that of a second, slow book written from the document with
 * other means: names as texts, sets as sets, recursion over rows, a tree of steps, weeks night by night.
 */
public final class DreamBookRandomRuns {
    private static final int RUNS = 700;
    /** Behind so many calls a run begins none of its own; a text may need some hundred more. */
    private static final int CALLS = 340;
    private static final int MOST_CALLS = 512;
    private static int wrong = 0;

    public static void main(String[] args) {
        for (int run = 0; run < RUNS && wrong < 20; run++) {
            new Run(run).go();
        }
        System.out.println(wrong == 0 ? "random runs agree" : wrong + " answers differ");
        if (wrong != 0) {
            System.exit(1);
        }
    }

    // ------------------------------------------------------------------ the second book

    static final class Fault extends RuntimeException {
        final int kind;
        final int place;

        Fault(int kind, int place) {
            super(null, null, false, false);
            this.kind = kind;
            this.place = place;
        }
    }

    static final class Halt extends RuntimeException {
        Halt() {
            super(null, null, false, false);
        }
    }

    static final class Rule {
        int thing, means, by = -1, unless = -1, person = -1, season = -1, used;
        boolean out;

        int worth() {
            int size = Math.max(0, Math.abs(means) - used);
            return means < 0 ? -size : size;
        }

        Rule copy() {
            Rule r = new Rule();
            r.thing = thing; r.means = means; r.by = by; r.unless = unless; r.person = person; r.season = season;
            r.used = used; r.out = out;
            return r;
        }
    }

    static final class Dream {
        final List<Integer> things = new ArrayList<>();
        int costs = 0, chance = 1;
    }

    static final class Step {
        String word;
        int a = -1, person = -1, season = -1, number;
        char compare;
        List<Step> inside = new ArrayList<>();
    }

    /** All that a mark keeps. */
    static final class Page {
        List<String> things = new ArrayList<>(), persons = new ArrayList<>(), seasons = new ArrayList<>(),
            ruleNames = new ArrayList<>(), dreamNames = new ArrayList<>();
        List<Boolean> widow = new ArrayList<>(), turns = new ArrayList<>();
        List<Integer> sums = new ArrayList<>();
        List<Rule> rules = new ArrayList<>();
        List<int[]> notes = new ArrayList<>();
        List<Dream> dreams = new ArrayList<>();
        int dreamt;
        List<Step> nights;

        Page copy() {
            Page p = new Page();
            p.things = things; p.persons = persons; p.seasons = seasons; p.ruleNames = ruleNames;
            p.dreamNames = dreamNames; p.widow = widow; p.turns = turns; p.notes = notes; p.dreams = dreams;
            p.nights = nights; p.dreamt = dreamt;
            p.sums = new ArrayList<>(sums);
            for (Rule r : rules) {
                p.rules.add(r.copy());
            }
            return p;
        }

        List<String> names(String kind) {
            switch (kind) {
                case "thing": return things;
                case "person": return persons;
                case "season": return seasons;
                case "rule": return ruleNames;
                default: return dreamNames;
            }
        }
    }

    static final class Token {
        final String text;
        final int place;

        Token(String text, int place) {
            this.text = text;
            this.place = place;
        }

        boolean isWord() { return text.matches("[a-z]+"); }
        boolean isNumber() { return text.matches("[0-9]{1,4}"); }
        boolean isSign() { return text.matches("[;<>=]"); }
    }

    static final List<String> KEPT = List.of("thing", "person", "widow", "season", "turns", "rule", "of", "means",
        "less", "by", "unless", "for", "in", "note", "strikes", "dream", "costs", "chance", "night", "any", "strike",
        "print", "when", "sum", "worn", "loop", "end", "stop");

    static final class Text {
        final String all;
        final List<Token> tokens = new ArrayList<>();
        int at = 0;

        Text(String all) {
            this.all = all;
            java.util.regex.Matcher m = java.util.regex.Pattern.compile("[a-z]+|[0-9]+|[^ \n]").matcher(all);
            while (m.find()) {
                tokens.add(new Token(m.group(), m.start()));
            }
        }

        boolean ended() { return at >= tokens.size(); }

        /** The next token, which must be one. */
        Token next() {
            if (ended()) {
                throw new Fault(2, all.length());
            }
            Token t = tokens.get(at);
            if (!t.isWord() && !t.isNumber() && !t.isSign()) {
                throw new Fault(1, t.place);
            }
            return t;
        }

        boolean sees(String what) { return !ended() && tokens.get(at).text.equals(what); }

        boolean eats(String what) {
            if (sees(what)) {
                at++;
                return true;
            }
            return false;
        }

        void must(String what) {
            Token t = next();
            if (!t.text.equals(what)) {
                throw new Fault(2, t.place);
            }
            at++;
        }

        boolean seesName() {
            if (ended()) {
                return false;
            }
            String t = tokens.get(at).text;
            return t.matches("[a-z]{1,8}") && !KEPT.contains(t);
        }

        Token name() {
            Token t = next();
            if (!seesName()) {
                throw new Fault(2, t.place);
            }
            at++;
            return t;
        }

        int old(List<String> names) {
            Token t = name();
            int number = names.indexOf(t.text);
            if (number < 0) {
                throw new Fault(3, t.place);
            }
            return number;
        }

        int number(int least, int most) {
            Token t = next();
            if (!t.isNumber()) {
                throw new Fault(2, t.place);
            }
            int v = Integer.parseInt(t.text);
            if (v < least || v > most) {
                throw new Fault(4, t.place);
            }
            at++;
            return v;
        }
    }

    static Page parseBook(String s) {
        Text t = new Text(s);
        Page p = new Page();
        List<String> all = new ArrayList<>();
        while (!t.ended()) {
            Token head = t.next();
            int[] most = {10, 4, 3, 12, 12, 8};
            int[] have = {p.things.size(), p.persons.size(), p.seasons.size(), p.rules.size(), p.notes.size(), p.dreams.size()};
            int kind = List.of("thing", "person", "season", "rule", "note", "dream").indexOf(head.text);
            if (kind < 0) {
                throw new Fault(2, head.place);
            }
            if (have[kind] == most[kind]) {
                throw new Fault(6, head.place);
            }
            t.at++;
            if (head.text.equals("note")) {
                parseNote(t, p);
            } else {
                Token name = t.name();
                if (all.contains(name.text)) {
                    throw new Fault(3, name.place);
                }
                all.add(name.text);
                p.names(head.text).add(name.text);
                switch (kind) {
                    case 0: break;
                    case 1: p.widow.add(t.eats("widow")); p.sums.add(0); break;
                    case 2: p.turns.add(t.eats("turns")); break;
                    case 3: p.rules.add(parseRule(t, p)); break;
                    default: p.dreams.add(parseDream(t, p)); break;
                }
            }
            t.must(";");
        }
        return p;
    }

    static void parseNote(Text t, Page p) {
        int a = t.old(p.ruleNames);
        t.must("strikes");
        int place = t.ended() ? 0 : t.tokens.get(t.at).place;
        int b = t.old(p.ruleNames);
        for (int[] n : p.notes) {
            if (n[0] == a && n[1] == b) {
                throw new Fault(5, place);
            }
        }
        p.notes.add(new int[] {a, b});
    }

    static Rule parseRule(Text t, Page p) {
        Rule r = new Rule();
        t.must("of");
        r.thing = t.old(p.things);
        t.must("means");
        int sign = t.eats("less") ? -1 : 1;
        r.means = sign * t.number(0, 99);
        if (t.eats("by")) { r.by = t.old(p.things); }
        if (t.eats("unless")) { r.unless = t.old(p.things); }
        if (t.eats("for")) { r.person = t.old(p.persons); }
        if (t.eats("in")) { r.season = t.old(p.seasons); }
        return r;
    }

    static Dream parseDream(Text t, Page p) {
        Dream d = new Dream();
        d.things.add(t.old(p.things));
        while (t.seesName()) {
            int place = t.tokens.get(t.at).place;
            int thing = t.old(p.things);
            if (d.things.size() == 6) {
                throw new Fault(6, place);
            }
            d.things.add(thing);
        }
        if (t.eats("costs")) { d.costs = t.number(0, 99); }
        if (t.eats("chance")) { d.chance = t.number(1, 99); }
        return d;
    }

    static int countSteps;

    static List<Step> parseNights(Text t, Page p, int depth) {
        List<Step> steps = new ArrayList<>();
        while (!t.ended()) {
            Token head = t.next();
            if (head.text.equals("end")) {
                if (depth == 0) {
                    throw new Fault(2, head.place);
                }
                return steps;
            }
            if (!List.of("night", "any", "strike", "print", "when", "loop", "stop").contains(head.text)) {
                throw new Fault(2, head.place);
            }
            if (countSteps == 30) {
                throw new Fault(6, head.place);
            }
            boolean deep = head.text.equals("when") || head.text.equals("loop");
            if (deep && depth == 3) {
                throw new Fault(7, head.place);
            }
            countSteps++;
            t.at++;
            Step s = new Step();
            s.word = head.text;
            steps.add(s);
            parseStep(t, p, s);
            t.must(";");
            if (deep) {
                s.inside = parseNights(t, p, depth + 1);
                t.must("end");
                t.must(";");
            }
        }
        if (depth > 0) {
            throw new Fault(2, t.all.length());
        }
        return steps;
    }

    static void parseStep(Text t, Page p, Step s) {
        switch (s.word) {
            case "night":
                s.a = t.old(p.dreamNames);
            case "any":
                t.must("for");
                s.person = t.old(p.persons);
                if (t.eats("in")) { s.season = t.old(p.seasons); }
                break;
            case "strike":
            case "print":
                s.a = t.old(p.ruleNames);
                break;
            case "loop":
                s.number = t.number(1, 99);
                break;
            case "when":
                Token test = t.next();
                if (t.eats("worn")) {
                    s.a = t.old(p.ruleNames);
                } else if (t.eats("sum")) {
                    s.person = t.old(p.persons);
                    Token c = t.next();
                    if (!c.text.matches("[<>=]")) {
                        throw new Fault(2, c.place);
                    }
                    s.compare = c.text.charAt(0);
                    t.at++;
                    int sign = t.eats("less") ? -1 : 1;
                    s.number = sign * t.number(0, 9999);
                } else {
                    throw new Fault(2, test.place);
                }
                break;
            default:
                break;
        }
    }

    /** The second book: each method answers like the first one's and leaves its STATUS in st. */
    static final class Plain {
        final long[][] trays = new long[4][];
        final int[] sorts = new int[4];
        String tape = "";
        Page page = new Page();
        final List<Page> marks = new ArrayList<>();
        int st = 0;
        BigInteger top = BigInteger.ZERO, bottom = BigInteger.ONE;
        int faultKind = -1, faultPlace = -1;
        List<Integer> found = new ArrayList<>();
        int stock = -1;
        int[] lived;
        int[] tally = new int[5];
        int steps, drawn;

        long no(int status) { st = status; return -1; }
        long yes(long v) { st = 0; return v; }

        // -------- standing

        List<Integer> strikers(int rule) {
            List<Integer> all = new ArrayList<>();
            for (int[] n : page.notes) {
                if (n[1] == rule) {
                    all.add(n[0]);
                }
            }
            return all;
        }

        int[] standings() {
            int[] is = new int[page.rules.size()];
            Arrays.fill(is, 2);
            for (boolean more = true; more;) {
                more = false;
                for (int r = 0; r < is.length; r++) {
                    boolean allFallen = true;
                    boolean oneStands = false;
                    for (int s : strikers(r)) {
                        allFallen &= is[s] == 1;
                        oneStands |= is[s] == 0;
                    }
                    int now = allFallen ? 0 : oneStands ? 1 : 2;
                    if (is[r] == 2 && now != 2) {
                        is[r] = now;
                        more = true;
                    }
                }
            }
            return is;
        }

        List<Integer> stableSets() {
            List<Integer> sets = new ArrayList<>();
            int n = page.rules.size();
            for (int set = 0; set < 1 << n; set++) {
                boolean good = true;
                for (int r = 0; r < n; r++) {
                    boolean struck = false;
                    for (int s : strikers(r)) {
                        struck |= (set & 1 << s) != 0;
                    }
                    boolean in = (set & 1 << r) != 0;
                    good &= in ? !struck : struck;
                }
                if (good) {
                    sets.add(set);
                }
            }
            return sets;
        }

        // -------- readings

        boolean fits(Rule r, List<Integer> row, int k, int person, int season) {
            if (r.thing != row.get(k)) { return false; }
            boolean near = k > 0 && row.get(k - 1) == r.by || k + 1 < row.size() && row.get(k + 1) == r.by;
            if (r.by >= 0 && !near) { return false; }
            if (r.unless >= 0 && row.contains(r.unless)) { return false; }
            if (r.person >= 0 && r.person != person) { return false; }
            return r.season < 0 || r.season == season;
        }

        int ruleOf(List<Integer> row, int k, int person, int season, int[] standings) {
            for (int r = 0; r < page.rules.size(); r++) {
                Rule rule = page.rules.get(r);
                if (standings[r] == 0 && !rule.out && fits(rule, row, k, person, season)) {
                    return r;
                }
            }
            return -1;
        }

        int ruleOf(List<Integer> row, int k, int person, int season) {
            return ruleOf(row, k, person, season, standings());
        }

        int sign(int person, int season) {
            int s = person >= 0 && page.widow.get(person) ? -1 : 1;
            return season >= 0 && page.turns.get(season) ? -s : s;
        }

        int read(List<Integer> row, int person, int season) {
            return read(row, person, season, standings());
        }

        int read(List<Integer> row, int person, int season, int[] standings) {
            int sum = 0;
            for (int k = 0; k < row.size(); k++) {
                int r = ruleOf(row, k, person, season, standings);
                sum += r < 0 ? 0 : page.rules.get(r).worth();
            }
            return sign(person, season) * sum;
        }

        int readDream(int d, int person, int season) {
            return read(page.dreams.get(d).things, person, season);
        }

        int wear(int d, int person, int season) {
            List<Integer> row = page.dreams.get(d).things;
            List<Integer> who = new ArrayList<>();
            for (int k = 0; k < row.size(); k++) {
                int r = ruleOf(row, k, person, season);
                if (r >= 0) { who.add(r); }
            }
            for (int r : who) { page.rules.get(r).used++; }
            return who.size();
        }

        boolean doNight(int d, int person, int season) {
            int v = readDream(d, person, season);
            int sum = page.sums.get(person) + v;
            if (Math.abs(sum) > 9999) { return false; }
            page.sums.set(person, sum);
            page.dreamt++;
            tally[1]++;
            if (v > 0) { tally[2]++; }
            tally[3] += wear(d, person, season);
            return true;
        }

        boolean rowOk(int d) { return d >= 0 && d < page.dreams.size(); }
        boolean who(int p) { return p >= -1 && p < page.persons.size(); }
        boolean time(int s) { return s >= -1 && s < page.seasons.size(); }
        boolean isRule(int r) { return r >= 0 && r < page.rules.size(); }
        boolean all(int d, int p, int s) { return rowOk(d) && who(p) && time(s); }

        // -------- the calls

        long tray(int tray, int sort, int many) {
            if (tray < 0 || tray > 3 || sort < 0 || sort > 3) { st = 1; return 0; }
            if (many > 60) { st = 5; return 0; }
            if (many < 0) { st = 6; return 0; }
            trays[tray] = new long[many];
            sorts[tray] = sort;
            st = 0;
            return 1;
        }

        int place(int tray, long place) {
            if (tray < 0 || tray > 3) { return 1; }
            if (trays[tray] == null) { return 3; }
            return place < 0 || place >= trays[tray].length ? 4 : 0;
        }

        long cut(int sort, long v) {
            int bits = 8 << sort;
            return v << 64 - bits >> 64 - bits;
        }

        long write(int tray, int place, long v) {
            st = place(tray, place);
            if (st != 0) { return 0; }
            trays[tray][place] = cut(sorts[tray], v);
            return 1;
        }

        long readAt(int tray, int place) {
            st = place(tray, place);
            return st != 0 ? -1 : trays[tray][place];
        }

        long pour(int a, int i, int b, int j, int many) {
            if (a < 0 || a > 3 || b < 0 || b > 3) { st = 1; return 0; }
            if (trays[a] == null || trays[b] == null) { st = 3; return 0; }
            if (sorts[a] != sorts[b]) { st = 11; return 0; }
            if (many < 0) { st = 6; return 0; }
            if (i < 0 || j < 0 || (long) i + many > trays[a].length || (long) j + many > trays[b].length) { st = 4; return 0; }
            long[] taken = Arrays.copyOfRange(trays[a], i, i + many);
            for (int k = 0; k < many; k++) { trays[b][j + k] = taken[k]; }
            st = 0;
            return 1;
        }

        long book(int n) {
            if (n < 0 || n > tape.length()) { return no(5); }
            String text = tape.substring(0, n);
            tape = "";
            try {
                page = parseBook(text);
                faultKind = 0;
                faultPlace = -1;
                return yes(page.rules.size());
            } catch (Fault f) {
                faultKind = f.kind;
                faultPlace = f.place;
                return no(10);
            }
        }

        long nights(int n) {
            if (n < 0 || n > tape.length() || n > 300) { return no(5); }
            String text = tape.substring(0, n);
            tape = "";
            try {
                countSteps = 0;
                page.nights = parseNights(new Text(text), page, 0);
                faultKind = 0;
                faultPlace = -1;
                return yes(countSteps);
            } catch (Fault f) {
                faultKind = f.kind;
                faultPlace = f.place;
                return no(10);
            }
        }

        long many(int what) {
            switch (what) {
                case 0: return yes(page.things.size());
                case 1: return yes(page.persons.size());
                case 2: return yes(page.seasons.size());
                case 3: return yes(page.rules.size());
                case 4: return yes(page.notes.size());
                case 5: return yes(page.dreams.size());
                case 6: return yes(page.dreams.stream().mapToInt(d -> d.chance).sum());
                case 7: return yes(page.dreamt);
                case 8: {
                    int set = 0;
                    int[] is = standings();
                    for (int r = 0; r < is.length; r++) {
                        if (is[r] == 0 && !page.rules.get(r).out) { set += 1 << r; }
                    }
                    return yes(set);
                }
                case 9: {
                    int set = 0;
                    for (int r = 0; r < page.rules.size(); r++) {
                        if (page.rules.get(r).out) { set += 1 << r; }
                    }
                    return yes(set);
                }
                default: return no(5);
            }
        }

        long rule(int r, int what) {
            if (!isRule(r)) { return no(2); }
            if (what < 0 || what > 7) { return no(5); }
            Rule x = page.rules.get(r);
            if (what == 1) { return yes(x.means); }
            if (what == 7) { return yes(x.worth()); }
            int v = new int[] {x.thing, 0, x.by, x.unless, x.person, x.season, x.used}[what];
            return v < 0 ? no(8) : yes(v);
        }

        long person(int p, int what) {
            if (p < 0 || !who(p)) { return no(2); }
            if (what != 0 && what != 1) { return no(5); }
            return yes(what == 0 ? (page.widow.get(p) ? 1 : 0) : page.sums.get(p));
        }

        long turns(int s) { return s < 0 || !time(s) ? no(2) : yes(page.turns.get(s) ? 1 : 0); }

        long note(int n, int what) {
            if (n < 0 || n >= page.notes.size()) { return no(2); }
            return what != 0 && what != 1 ? no(5) : yes(page.notes.get(n)[what]);
        }

        long dream(int d, int what) {
            if (!rowOk(d)) { return no(2); }
            if (what < 0 || what > 2) { return no(5); }
            Dream x = page.dreams.get(d);
            return yes(what == 0 ? x.things.size() : what == 1 ? x.costs : x.chance);
        }

        long dreamAt(int d, int k) {
            if (!rowOk(d)) { return no(2); }
            List<Integer> t = page.dreams.get(d).things;
            return k < 0 || k >= t.size() ? no(8) : yes(t.get(k));
        }

        long copyDream(int d, int tray) {
            if (tray < 0 || tray > 3) { return no(1); }
            if (trays[tray] == null) { return no(3); }
            if (!rowOk(d)) { return no(2); }
            List<Integer> t = page.dreams.get(d).things;
            if (t.size() > trays[tray].length) { return no(4); }
            for (int k = 0; k < t.size(); k++) { trays[tray][k] = t.get(k); }
            return yes(t.size());
        }

        long standing(int r) { return isRule(r) ? yes(standings()[r]) : no(2); }

        long stables() { return yes(stableSets().size()); }

        long stable(int k) {
            List<Integer> all = stableSets();
            return k < 0 || k >= all.size() ? no(8) : yes(all.get(k));
        }

        long strikes(int r, int what) {
            if (!isRule(r)) { return no(2); }
            if (what != 0 && what != 1) { return no(5); }
            TreeSet<Integer> set = new TreeSet<>();
            for (int[] n : page.notes) {
                if (n[what] == r) { set.add(n[1 - what]); }
            }
            int sum = 0;
            for (int x : set) { sum += 1 << x; }
            return yes(sum);
        }

        long strike(int r) {
            if (!isRule(r)) { st = 2; return 0; }
            if (page.rules.get(r).out) { st = 9; return 0; }
            page.rules.get(r).out = true;
            st = 0;
            return 1;
        }

        long mend(int r) {
            if (!isRule(r)) { st = 2; return 0; }
            if (!page.rules.get(r).out) { st = 9; return 0; }
            page.rules.get(r).out = false;
            st = 0;
            return 1;
        }

        long print(int r) {
            if (!isRule(r)) { return no(2); }
            int used = page.rules.get(r).used;
            page.rules.get(r).used = 0;
            return yes(used);
        }

        long reading(int d, int p, int s) { return all(d, p, s) ? yes(readDream(d, p, s)) : no(2); }

        long readRow(int tray, int n, int p, int s) {
            if (tray < 0 || tray > 3) { return no(1); }
            if (trays[tray] == null) { return no(3); }
            if (n > trays[tray].length) { return no(4); }
            if (n < 1 || n > 8) { return no(5); }
            if (!who(p) || !time(s)) { return no(2); }
            List<Integer> row = new ArrayList<>();
            for (int k = 0; k < n; k++) {
                long v = trays[tray][k];
                if (v < 0 || v >= page.things.size()) { return no(2); }
                row.add((int) v);
            }
            return yes(read(row, p, s));
        }

        long ruleAt(int d, int k, int p, int s) {
            if (!all(d, p, s)) { return no(2); }
            List<Integer> row = page.dreams.get(d).things;
            if (k < 0 || k >= row.size()) { return no(8); }
            int r = ruleOf(row, k, p, s);
            return r < 0 ? no(8) : yes(r);
        }

        long valueAt(int d, int k, int p, int s) {
            if (!all(d, p, s)) { return no(2); }
            List<Integer> row = page.dreams.get(d).things;
            if (k < 0 || k >= row.size()) { return no(8); }
            int r = ruleOf(row, k, p, s);
            return yes(r < 0 ? 0 : sign(p, s) * page.rules.get(r).worth());
        }

        long night(int d, int p, int s) {
            if (!all(d, p, s) || p < 0) { return no(2); }
            return doNight(d, p, s) ? yes(page.sums.get(p)) : no(7);
        }

        int countingSet(int d, int p, int s) {
            List<Integer> row = page.dreams.get(d).things;
            int set = 0;
            for (int k = 0; k < row.size(); k++) {
                int r = ruleOf(row, k, p, s);
                if (r >= 0) { set |= 1 << r; }
            }
            return set;
        }

        long counting(int d, int p, int s) { return all(d, p, s) ? yes(countingSet(d, p, s)) : no(2); }

        long idle() {
            int set = 0;
            for (int d = 0; d < page.dreams.size(); d++) {
                for (int p = -1; p < page.persons.size(); p++) {
                    for (int s = -1; s < page.seasons.size(); s++) { set |= countingSet(d, p, s); }
                }
            }
            return yes((1 << page.rules.size()) - 1 - set);
        }

        long mostUsed() {
            int most = page.rules.stream().mapToInt(r -> r.used).max().orElse(0);
            for (int r = 0; r < page.rules.size() && most > 0; r++) {
                if (page.rules.get(r).used == most) { return yes(r); }
            }
            return no(8);
        }

        /** Straight from what a quarrel is for: some row, person, season in which both fit the thing in one place. */
        boolean quarrels(int a, int b) {
            Rule x = page.rules.get(a), y = page.rules.get(b);
            if (x.thing != y.thing || (long) Integer.signum(x.means) * Integer.signum(y.means) >= 0) { return false; }
            int n = page.things.size();
            for (int p = -1; p < page.persons.size(); p++) {
                for (int s = -1; s < page.seasons.size(); s++) {
                    for (int left = -1; left < n; left++) {
                        for (int right = -1; right < n; right++) {
                            List<Integer> row = new ArrayList<>();
                            if (left >= 0) { row.add(left); }
                            int k = row.size();
                            row.add(x.thing);
                            if (right >= 0) { row.add(right); }
                            if (fits(x, row, k, p, s) && fits(y, row, k, p, s)) { return true; }
                        }
                    }
                }
            }
            return false;
        }

        long quarrel(int a, int b) {
            if (!isRule(a) || !isRule(b)) { return no(2); }
            return a == b ? no(5) : yes(quarrels(a, b) ? 1 : 0);
        }

        List<int[]> couples() {
            List<int[]> all = new ArrayList<>();
            for (int a = 0; a < page.rules.size(); a++) {
                for (int b = a + 1; b < page.rules.size(); b++) {
                    if (quarrels(a, b)) { all.add(new int[] {a, b}); }
                }
            }
            return all;
        }

        long countQuarrels() { return yes(couples().size()); }

        long shown(int a, int b) {
            if (!isRule(a) || !isRule(b)) { return no(2); }
            if (a == b) { return no(5); }
            if (!quarrels(a, b)) { return no(8); }
            int x = page.rules.get(a).by, y = page.rules.get(b).by;
            found = new ArrayList<>();
            if (x >= 0) { found.add(x); }
            found.add(page.rules.get(a).thing);
            if (y >= 0 && y != x) { found.add(y); }
            return yes(found.size());
        }

        long foundAt(int k) { return k < 0 || k >= found.size() ? no(8) : yes(found.get(k)); }

        int fewestOut() {
            List<int[]> couples = couples();
            int best = -1;
            for (int set = 0; set < 1 << page.rules.size(); set++) {
                boolean good = true;
                for (int[] c : couples) { good &= (set & (1 << c[0] | 1 << c[1])) != 0; }
                if (good && (best < 0 || Integer.bitCount(set) < Integer.bitCount(best))) { best = set; }
            }
            return best;
        }

        long fewest() { return yes(Integer.bitCount(fewestOut())); }
        long fewestSet() { return yes(fewestOut()); }

        interface Test { boolean holds(List<Integer> row); }

        /** All rows of n things in their order that pass; stops at the first if one is enough. */
        List<List<Integer>> look(int n, boolean one, Test test) {
            List<List<Integer>> good = new ArrayList<>();
            look(new ArrayList<>(), n, one, test, good);
            return good;
        }

        void look(List<Integer> row, int n, boolean one, Test test, List<List<Integer>> good) {
            if (one && !good.isEmpty()) { return; }
            if (row.size() == n) {
                if (test.holds(row)) { good.add(new ArrayList<>(row)); }
                return;
            }
            for (int t = 0; t < page.things.size(); t++) {
                row.add(t);
                look(row, n, one, test, good);
                row.remove(row.size() - 1);
            }
        }

        long shortest(int v, int p, int s) {
            if (!who(p) || !time(s)) { return no(2); }
            if (v < -999 || v > 999) { return no(5); }
            int[] is = standings();
            for (int n = 1; n <= 4; n++) {
                List<List<Integer>> good = look(n, true, row -> read(row, p, s, is) == v);
                if (!good.isEmpty()) {
                    found = good.get(0);
                    return yes(n);
                }
            }
            return no(8);
        }

        long rows(int n, int v, int p, int s) {
            if (!who(p) || !time(s)) { return no(2); }
            if (v < -999 || v > 999 || n < 1 || n > 4) { return no(5); }
            int[] is = standings();
            return yes(look(n, false, row -> read(row, p, s, is) == v).size());
        }

        long lucky() {
            int[] is = standings();
            for (int n = 1; n <= 3; n++) {
                List<List<Integer>> good = look(n, true, row -> {
                    for (int p = -1; p < page.persons.size(); p++) {
                        for (int s = -1; s < page.seasons.size(); s++) {
                            if (read(row, p, s, is) <= 0) { return false; }
                        }
                    }
                    return true;
                });
                if (!good.isEmpty()) {
                    found = good.get(0);
                    return yes(n);
                }
            }
            return no(8);
        }

        long stock(int sum, int p, int s) {
            if (!who(p) || !time(s)) { return no(2); }
            if (sum < -999 || sum > 999) { return no(5); }
            Page kept = page;
            int least = Integer.MAX_VALUE;
            for (int set = 0; set < 1 << kept.dreams.size(); set++) {
                int costs = 0;
                for (int d = 0; d < kept.dreams.size(); d++) { costs += (set & 1 << d) != 0 ? kept.dreams.get(d).costs : 0; }
                if (costs < least && comeOf(set, p, s) == sum) {
                    least = costs;
                    stock = set;
                }
            }
            return least == Integer.MAX_VALUE ? no(8) : yes(least);
        }

        /** What the dreams of a set come to one night behind the other; all stays. */
        int comeOf(int set, int p, int s) {
            Page kept = page;
            page = kept.copy();
            int come = 0;
            for (int d = 0; d < kept.dreams.size(); d++) {
                if ((set & 1 << d) != 0) {
                    come += readDream(d, p, s);
                    wear(d, p, s);
                }
            }
            page = kept;
            return come;
        }

        long stockSet() { return stock < 0 ? no(8) : yes(stock); }

        long whose(int d, int s, int v) {
            if (!all(d, -1, s)) { return no(2); }
            int set = 0;
            for (int p = 0; p < page.persons.size(); p++) { set += readDream(d, p, s) == v ? 1 << p : 0; }
            return yes(set);
        }

        long when(int d, int p, int v) {
            if (!all(d, p, -1)) { return no(2); }
            int set = 0;
            for (int s = 0; s < page.seasons.size(); s++) { set += readDream(d, p, s) == v ? 1 << s : 0; }
            return yes(set);
        }

        List<Integer> allReadings(int d) {
            List<Integer> all = new ArrayList<>();
            for (int p = -1; p < page.persons.size(); p++) {
                for (int s = -1; s < page.seasons.size(); s++) { all.add(readDream(d, p, s)); }
            }
            return all;
        }

        long twin(int d) {
            if (!rowOk(d)) { return no(2); }
            for (int e = 0; e < page.dreams.size(); e++) {
                if (e != d && allReadings(e).equals(allReadings(d))) { return yes(e); }
            }
            return no(8);
        }

        long bargain(int p, int s) {
            if (!who(p) || !time(s)) { return no(2); }
            // 100 dreams' COSTS and 1 divide this, so that each reading by them is a whole number.
            BigInteger scale = BigInteger.ONE;
            for (int c = 1; c <= 100; c++) { scale = scale.multiply(BigInteger.valueOf(c)); }
            int best = -1;
            BigInteger most = null;
            for (int d = 0; d < page.dreams.size(); d++) {
                BigInteger worth = scale.divide(BigInteger.valueOf(page.dreams.get(d).costs + 1)).multiply(BigInteger.valueOf(readDream(d, p, s)));
                if (most == null || worth.compareTo(most) > 0) {
                    most = worth;
                    best = d;
                }
            }
            return best < 0 ? no(8) : yes(best);
        }

        void tell(BigInteger a, BigInteger b) {
            BigInteger g = a.gcd(b);
            top = a.divide(g);
            bottom = b.divide(g);
            st = 0;
        }

        void weeks(int n, int sum, BigInteger ways, int[] readings, java.util.Map<Integer, BigInteger> out) {
            if (n == 0) {
                out.merge(sum, ways, BigInteger::add);
                return;
            }
            for (int d = 0; d < readings.length; d++) {
                weeks(n - 1, sum + readings[d], ways.multiply(BigInteger.valueOf(page.dreams.get(d).chance)), readings, out);
            }
        }

        /** v is null where the mean is asked. */
        long week(int n, Integer v, int p, int s) {
            st = !who(p) || !time(s) ? 2 : n < 1 || n > 6 || v != null && (v < -999 || v > 999) ? 5 : page.dreams.isEmpty() ? 8 : 0;
            if (st != 0) { return 0; }
            int[] readings = new int[page.dreams.size()];
            for (int d = 0; d < readings.length; d++) { readings[d] = readDream(d, p, s); }
            java.util.Map<Integer, BigInteger> out = new java.util.TreeMap<>();
            weeks(n, 0, BigInteger.ONE, readings, out);
            BigInteger a = BigInteger.ZERO, b = BigInteger.ZERO;
            for (java.util.Map.Entry<Integer, BigInteger> e : out.entrySet()) {
                b = b.add(e.getValue());
                if (v == null) {
                    a = a.add(e.getValue().multiply(BigInteger.valueOf(e.getKey())));
                } else if (e.getKey() >= v) {
                    a = a.add(e.getValue());
                }
            }
            tell(a, b);
            return 1;
        }

        // -------- living

        int draw(int n) {
            drawn = (int) ((drawn * 2917L + 10613L) % 65536L);
            return drawn / 8 % n;
        }

        void come() {
            if (steps == 300) {
                tally[4] = 1;
                throw new Halt();
            }
            steps++;
        }

        boolean holds(Step s) {
            if (s.a >= 0) { return page.rules.get(s.a).worth() == 0; }
            int sum = page.sums.get(s.person);
            return s.compare == '<' ? sum < s.number : s.compare == '>' ? sum > s.number : sum == s.number;
        }

        void act(List<Step> all) {
            for (Step s : all) {
                come();
                boolean ok = true;
                switch (s.word) {
                    case "night": ok = doNight(s.a, s.person, s.season); break;
                    case "any":
                        if (page.dreams.isEmpty()) {
                            ok = false;
                        } else {
                            List<Integer> bag = new ArrayList<>();
                            for (int d = 0; d < page.dreams.size(); d++) {
                                for (int c = 0; c < page.dreams.get(d).chance; c++) { bag.add(d); }
                            }
                            ok = doNight(bag.get(draw(bag.size())), s.person, s.season);
                        }
                        break;
                    case "strike":
                        ok = !page.rules.get(s.a).out;
                        page.rules.get(s.a).out = true;
                        break;
                    case "print":
                        ok = page.rules.get(s.a).used != 0;
                        page.rules.get(s.a).used = 0;
                        break;
                    case "when": if (holds(s)) { act(s.inside); } break;
                    case "loop": for (int i = 0; i < s.number; i++) { act(s.inside); } break;
                    default: throw new Halt();
                }
                if (!ok) { tally[0]++; }
            }
        }

        void run(int seed) {
            tally = new int[5];
            steps = 0;
            drawn = seed;
            try {
                act(page.nights);
            } catch (Halt h) {
                return;
            }
        }

        long live(int seed) {
            if (seed < 0 || seed > 9999) { return no(5); }
            if (page.nights == null) { return no(8); }
            run(seed);
            lived = tally.clone();
            return yes(steps);
        }

        long lived(int what) {
            if (what < 0 || what > 4) { return no(5); }
            return lived == null ? no(8) : yes(lived[what]);
        }

        long mean(int p, int seed, int many) {
            st = p < 0 || !who(p) ? 2
                : many < 1 || many > 20 || seed < 0 || seed > 9999 || seed + many - 1 > 9999 ? 5 : page.nights == null ? 8 : 0;
            if (st != 0) { return 0; }
            Page kept = page;
            long sum = 0;
            for (int i = 0; i < many; i++) {
                page = kept.copy();
                run(seed + i);
                sum += page.sums.get(p);
            }
            page = kept;
            tally = new int[5];
            tell(BigInteger.valueOf(sum), BigInteger.valueOf(many));
            return 1;
        }

        long mark() {
            if (marks.size() == 3) { return no(7); }
            marks.add(page.copy());
            return yes(marks.size());
        }

        long back() {
            if (marks.isEmpty()) { return no(8); }
            page = marks.remove(marks.size() - 1);
            return yes(marks.size());
        }
    }

    // ------------------------------------------------------------------ random runs

    static final class Run {
        final int number;
        final Random random;
        final DreamBook x = new DreamBook();
        final Plain y = new Plain();
        int calls = 0;

        Run(int number) {
            this.number = number;
            this.random = new Random(77L * number + 5);
        }

        /** The fraction and the fault are looked at where they may have become others, and now and then. */
        boolean isToldToo(String call) {
            return random.nextInt(10) == 0 || call.startsWith("book") || call.startsWith("nights") || call.startsWith("week")
                || call.startsWith("atLeast") || call.startsWith("mean");
        }

        boolean tellsTheSame() {
            calls += 4;
            return x.top() == y.top.longValueExact() && x.bottom() == y.bottom.longValueExact()
                && x.fault(0) == y.faultKind && x.fault(1) == y.faultPlace;
        }

        void due(String call, long got, long want) {
            calls += 2;
            boolean same = got == want && x.status() == y.st && (!isToldToo(call) || tellsTheSame());
            if (!same) {
                wrong++;
                System.out.println("run " + number + ", call " + calls + ": " + call + " answered " + got + ", due " + want
                    + "; status " + x.status() + ", due " + y.st + "; fraction " + x.top() + "/" + x.bottom() + ", due " + y.top + "/" + y.bottom
                    + "; fault " + x.fault(0) + " at " + x.fault(1) + ", due " + y.faultKind + " at " + y.faultPlace);
            }
            if (calls > MOST_CALLS) {
                throw new IllegalStateException("a run of more calls than an object is promised for");
            }
        }

        void go() {
            for (int i = 0; i < 4 && y.page.rules.isEmpty(); i++) { tell(true); }
            while (calls < CALLS && wrong < 20) {
                if (random.nextInt(100) == 0) {
                    tell(true);
                } else if (random.nextInt(20) == 0) {
                    tell(false);
                } else {
                    call(random.nextInt(47));
                }
            }
        }

        int n(int count) { return random.nextInt(25) == 0 ? random.nextInt(count + 3) - 2 : random.nextInt(Math.max(1, count)); }
        int rule() { return n(y.page.rules.size()); }
        int dream() { return n(y.page.dreams.size()); }
        int person() { return random.nextInt(4) == 0 ? -1 : n(y.page.persons.size()); }
        int season() { return random.nextInt(3) == 0 ? -1 : n(y.page.seasons.size()); }

        /** A number that is worth asking for: often what a dream means just now. */
        int value() {
            if (random.nextInt(12) == 0) { return random.nextInt(2400) - 1200; }
            int dreams = y.page.dreams.size();
            if (dreams == 0 || random.nextInt(3) == 0) { return random.nextInt(31) - 15; }
            int one = y.readDream(random.nextInt(dreams), -1, -1);
            return random.nextBoolean() ? one : one + y.readDream(random.nextInt(dreams), -1, -1);
        }

        void call(int which) {
            int r = rule(), q = rule(), d = dream(), p = person(), s = season(), v = value(), w = n(9), k = n(7);
            int t = random.nextInt(20) == 0 ? random.nextInt(6) - 1 : random.nextInt(2);
            switch (which) {
                case 0: { int many = random.nextInt(9) == 0 ? random.nextInt(70) - 4 : random.nextInt(10); int sort = random.nextInt(9) == 0 ? random.nextInt(7) - 1 : random.nextInt(2);
                    due("tray", x.tray(t, sort, many) ? 1 : 0, y.tray(t, sort, many)); break; }
                case 1: { long big = random.nextBoolean() ? random.nextLong() : random.nextInt(10); due("write", x.write(t, k, big) ? 1 : 0, y.write(t, k, big)); break; }
                case 2: due("read", x.read(t, k), y.readAt(t, k)); break;
                case 3: { int i = n(6), j = n(6), m = n(5); int to = random.nextInt(3);
                    due("pour", x.pour(t, i, to, j, m) ? 1 : 0, y.pour(t, i, to, j, m)); break; }
                case 4: due("many " + w, x.many(w + v / 1000), y.many(w + v / 1000)); break;
                case 5: due("rule " + r + " " + w, x.rule(r, w), y.rule(r, w)); break;
                case 6: due("person", x.person(p, k), y.person(p, k)); break;
                case 7: due("turns", x.turns(s), y.turns(s)); break;
                case 8: due("note", x.note(r, k / 2), y.note(r, k / 2)); break;
                case 9: due("dream", x.dream(d, k / 2), y.dream(d, k / 2)); break;
                case 10: due("dreamAt", x.dreamAt(d, k), y.dreamAt(d, k)); break;
                case 11: due("copyDream", x.copyDream(d, t), y.copyDream(d, t)); break;
                case 12: due("standing", x.standing(r), y.standing(r)); break;
                case 13: due("stables", x.stables(), y.stables()); break;
                case 14: due("stable", x.stable(k), y.stable(k)); break;
                case 15: due("strikes", x.strikes(r, k / 3), y.strikes(r, k / 3)); break;
                case 16: due("strike", x.strike(r) ? 1 : 0, y.strike(r)); break;
                case 17: due("mend", x.mend(r) ? 1 : 0, y.mend(r)); break;
                case 18: due("print", x.print(r), y.print(r)); break;
                case 19: due("reading", x.reading(d, p, s), y.reading(d, p, s)); break;
                case 20: due("readRow", x.readRow(t, w, p, s), y.readRow(t, w, p, s)); break;
                case 21: due("ruleAt", x.ruleAt(d, k, p, s), y.ruleAt(d, k, p, s)); break;
                case 22: due("valueAt", x.valueAt(d, k, p, s), y.valueAt(d, k, p, s)); break;
                case 23: due("night", x.night(d, p, s), y.night(d, p, s)); break;
                case 24: due("counting", x.counting(d, p, s), y.counting(d, p, s)); break;
                case 25: due("idle", x.idle(), y.idle()); break;
                case 26: due("mostUsed", x.mostUsed(), y.mostUsed()); break;
                case 27: due("quarrel", x.quarrel(r, q), y.quarrel(r, q)); break;
                case 28: due("quarrels", x.quarrels(), y.countQuarrels()); break;
                case 29: due("shown", x.shown(r, q), y.shown(r, q)); break;
                case 30: due("foundAt", x.foundAt(k), y.foundAt(k)); break;
                case 31: due("fewest", x.fewest(), y.fewest()); break;
                case 32: due("fewestSet", x.fewestSet(), y.fewestSet()); break;
                case 33: if (y.page.things.size() < 7 || random.nextInt(9) == 0) { due("shortest", x.shortest(v, p, s), y.shortest(v, p, s)); } break;
                case 34: if (y.page.things.size() < 7 || k < 4) { due("rows", x.rows(k, v, p, s), y.rows(k, v, p, s)); } break;
                case 35: due("lucky", x.lucky(), y.lucky()); break;
                case 36: { int sum = y.who(p) && y.time(s) && random.nextBoolean() ? y.comeOf(random.nextInt(1 << y.page.dreams.size()), p, s) : v;
                    due("stock", x.stock(sum, p, s), y.stock(sum, p, s)); due("stockSet", x.stockSet(), y.stockSet()); break; }
                case 37: due("stockSet", x.stockSet(), y.stockSet()); break;
                case 38: due("whose", x.whose(d, s, v), y.whose(d, s, v)); break;
                case 39: due("when", x.when(d, p, v), y.when(d, p, v)); break;
                case 40: due("twin", x.twin(d), y.twin(d)); break;
                case 41: due("bargain", x.bargain(p, s), y.bargain(p, s)); break;
                case 42: due("week", x.week(k, p, s) ? 1 : 0, y.week(k, null, p, s)); break;
                case 43: if (y.page.dreams.size() < 4 || k < 5) { due("atLeast", x.atLeast(k, v, p, s) ? 1 : 0, y.week(k, v, p, s)); } break;
                case 44: if (y.page.nights == null && random.nextInt(5) != 0) { tell(false); }
                    { int seed = random.nextInt(9) == 0 ? random.nextInt(10100) - 50 : random.nextInt(10000);
                    due("live", x.live(seed), y.live(seed));
                    for (int i = -1; i < 6; i++) { due("lived " + i, x.lived(i), y.lived(i)); }
                    break; }
                case 45: { int seed = random.nextInt(3) == 0 ? 9999 - random.nextInt(22) : random.nextInt(10000);
                    int many = random.nextInt(9) == 0 ? random.nextInt(25) - 2 : random.nextInt(4);
                    due("mean", x.mean(p, seed, many) ? 1 : 0, y.mean(p, seed, many)); break; }
                default: if (random.nextInt(3) == 0) { due("mark", x.mark(), y.mark()); } else if (random.nextInt(3) == 0) { due("back", x.back(), y.back()); } break;
            }
        }

        // -------- texts

        void feed(String s) {
            String padded = s;
            while (padded.length() % 20 != 0) { padded += random.nextInt(3) == 0 ? "x" : " "; }
            for (int i = 0; i < padded.length() && i <= 900; i += 20) {
                int[] v = new int[5];
                for (int j = 0; j < 20; j++) { v[j / 4] = v[j / 4] << 8 | padded.charAt(i + j) & 255; }
                int got = x.feed(v[0], v[1], v[2], v[3], v[4]);
                if (y.tape.length() + 20 <= 900) { y.tape += padded.substring(i, i + 20); }
                long want = i + 20 <= 900 ? y.tape.length() : -1;
                due("feed", got, want);
            }
        }

        void tell(boolean book) {
            List<String> parts = book ? bookParts() : nightParts();
            if (random.nextInt(4) == 0) { spoil(parts); }
            StringBuilder text = new StringBuilder();
            for (String p : parts) {
                if (text.length() > 0 && (Character.isLetterOrDigit(p.charAt(0)) || random.nextInt(4) == 0)
                    && random.nextInt(1500) != 0) { text.append(random.nextInt(12) == 0 ? "\n" : " "); }
                text.append(p);
            }
            String s = text.toString();
            int most = book ? 900 : 300;
            if (s.length() > most && random.nextInt(8) != 0) {
                int cut = s.lastIndexOf(';', most - 1);
                s = s.substring(0, random.nextInt(8) == 0 ? most : Math.max(0, cut + 1));
            }
            feed(s);
            int n = random.nextInt(25) == 0 ? random.nextInt(950) - 20 : Math.min(s.length(), y.tape.length());
            if (book) { due("book " + n + ": " + s, x.book(n), y.book(n)); } else { due("nights " + n + ": " + s, x.nights(n), y.nights(n)); }
            if (y.st == 5 && !y.tape.isEmpty()) {
                if (book) { due("book 0", x.book(0), y.book(0)); } else { due("nights 0", x.nights(0), y.nights(0)); }
            }
        }

        void spoil(List<String> parts) {
            String[] odd = {";", "<", "=", ">", "thing", "rule", "note", "dream", "x", "abcdefghi", "abcdefgh", "100", "0", "9999", "10000", "A", "\t", "\u00e9",
                "end", "in", "for", "less", "costs", "chance", "loop", "when", "stop", "widow", "turns", "a", "b", "ra", "pa", "sa", "da", "12345678901234567890"};
            for (int i = random.nextInt(2); i >= 0; i--) {
                int at = random.nextInt(parts.size() + 1);
                int how = random.nextInt(3);
                if (how != 0 && at < parts.size()) { parts.remove(at); }
                if (how != 1) { parts.add(at, odd[random.nextInt(odd.length)]); }
            }
        }

        String pick(String[] from, int count) { return from[random.nextInt(Math.max(1, count))]; }

        void add(List<String> parts, String words) { parts.addAll(Arrays.asList(words.split(" "))); }

        List<String> bookParts() {
            String[] t = {"a", "b", "c", "d", "e", "f", "g", "h", "i", "j", "k"};
            String[] p = {"pa", "pb", "pc", "pd", "pe"};
            String[] s = {"sa", "sb", "sc", "sd"};
            String[] r = {"ra", "rb", "rc", "rd", "re", "rf", "rg", "rh", "ri", "rj", "rk", "rl", "rm"};
            String[] d = {"da", "db", "dc", "dd", "de", "df", "dg", "dh", "di", "dj"};
            List<String> parts = new ArrayList<>();
            boolean big = random.nextInt(12) == 0;
            int things = big ? 9 + random.nextInt(3) : random.nextInt(40) == 0 ? 0 : 1 + random.nextInt(5);
            int persons = random.nextInt(big ? 6 : 4), seasons = random.nextInt(big ? 5 : 4);
            int rules = things == 0 ? 0 : big ? random.nextInt(14) : 1 + random.nextInt(9);
            int notes = rules == 0 ? 0 : random.nextInt(big ? 14 : 6);
            int dreams = things == 0 ? 0 : random.nextInt(big ? 10 : 6) + (random.nextInt(5) == 0 ? 0 : 1);
            for (int i = 0; i < things; i++) { add(parts, "thing " + t[i] + " ;"); }
            for (int i = 0; i < persons; i++) { add(parts, "person " + p[i] + (random.nextInt(3) == 0 ? " widow" : "") + " ;"); }
            for (int i = 0; i < seasons; i++) { add(parts, "season " + s[i] + (random.nextInt(3) == 0 ? " turns" : "") + " ;"); }
            for (int i = 0; i < rules; i++) {
                String means = (random.nextInt(3) == 0 ? "less " : "") + (random.nextInt(6) == 0 ? random.nextInt(101) : random.nextInt(7));
                add(parts, "rule " + r[i] + " of " + pick(t, Math.min(things, 3)) + " means " + means
                    + (random.nextInt(3) == 0 ? " by " + pick(t, things) : "") + (random.nextInt(4) == 0 ? " unless " + pick(t, things) : "")
                    + (persons > 0 && random.nextInt(4) == 0 ? " for " + pick(p, persons) : "")
                    + (seasons > 0 && random.nextInt(4) == 0 ? " in " + pick(s, seasons) : "") + " ;");
            }
            TreeSet<String> told = new TreeSet<>();
            for (int i = 0; i < notes; i++) {
                String note = "note " + pick(r, rules) + " strikes " + pick(r, rules) + " ;";
                if (told.add(note) || random.nextInt(12) == 0) { add(parts, note); }
            }
            for (int i = 0; i < dreams; i++) {
                StringBuilder row = new StringBuilder();
                for (int k = random.nextInt(15) == 0 ? 6 : random.nextInt(5); k >= 0; k--) { row.append(' ').append(pick(t, things)); }
                add(parts, "dream " + d[i] + row + (random.nextInt(2) == 0 ? " costs " + random.nextInt(random.nextInt(15) == 0 ? 101 : 5) : "")
                    + (random.nextInt(2) == 0 ? " chance " + (random.nextInt(8) == 0 ? random.nextInt(101) : 1 + random.nextInt(6)) : "") + " ;");
            }
            return parts;
        }

        List<String> nightParts() {
            List<String> parts = new ArrayList<>();
            addSteps(parts, random.nextInt(6) == 0 ? 12 : 5, 0);
            return parts;
        }

        String known(List<String> names) { return names.isEmpty() || random.nextInt(60) == 0 ? "a" : names.get(random.nextInt(names.size())); }

        void addSteps(List<String> parts, int most, int depth) {
            for (int i = depth > 4 ? -1 : random.nextInt(most + 1); i >= 0; i--) {
                String person = known(y.page.persons);
                String season = !y.page.seasons.isEmpty() && random.nextInt(3) == 0 ? " in " + known(y.page.seasons) : "";
                int which = random.nextInt(depth < 3 || random.nextInt(60) == 0 ? 9 : 6);
                if (random.nextInt(40) == 0) { which = 9; }
                if (y.page.persons.isEmpty() && which < 4) { which = 4 + random.nextInt(2); }
                if (y.page.rules.isEmpty() && (which == 4 || which == 5)) { which = 6; }
                switch (which) {
                    case 0: case 1: if (!y.page.dreams.isEmpty()) { add(parts, "night " + known(y.page.dreamNames) + " for " + person + season + " ;"); break; }
                    case 2: case 3: add(parts, "any for " + person + season + " ;"); break;
                    case 4: add(parts, "strike " + known(y.page.ruleNames) + " ;"); break;
                    case 5: add(parts, "print " + known(y.page.ruleNames) + " ;"); break;
                    case 6: case 7: add(parts, "loop " + (random.nextInt(5) == 0 ? random.nextInt(101) : 1 + random.nextInt(5)) + " ;");
                        addSteps(parts, 3, depth + 1); add(parts, "end ;"); break;
                    case 8:
                        if (!y.page.persons.isEmpty() && random.nextBoolean()) {
                            add(parts, "when sum " + person + " " + pick(new String[] {"<", "=", ">"}, 3) + (random.nextInt(3) == 0 ? " less " : " ") + random.nextInt(random.nextBoolean() ? 3 : 60) + " ;");
                        } else if (!y.page.rules.isEmpty()) {
                            add(parts, "when worn " + known(y.page.ruleNames) + " ;");
                        } else { break; }
                        addSteps(parts, 2, depth + 1); add(parts, "end ;"); break;
                    default: add(parts, "stop ;"); break;
                }
            }
        }
    }
}
