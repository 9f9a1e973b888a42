import java.util.function.Predicate;
import java.util.function.Supplier;
import java.util.function.ToLongFunction;

/**
 * Each STATUS number behind a promise, by a call that it refuses, at the boundary of what is refused: the call answers
 * NONE or false and changes nothing but STATUS. An object that was asked so is looked through and compared with one that
 * was made likewise and not asked. Where two STATUS numbers hold, the first in the order of STATUS is due, or in that
 * which the promise names.
 */
public final class DreamBookRefusals extends Looks {
    public static void main(String[] args) {
        trays();
        pour();
        feedTexts();
        faultyTexts();
        whatIsTold();
        copyDream();
        standing();
        readings();
        readRow();
        nights();
        quarrels();
        lookedFor();
        weeks();
        lives();
        marks();
        askingChangesNothing();
        finish("what is refused changes nothing");
    }

    // -------- what is refused

    private static void refused(String what, int status, Supplier<DreamBook> made, ToLongFunction<DreamBook> call) {
        x = made.get();
        long answer = call.applyAsLong(x);
        bad(what, answer, status);
        compare(what, x, made, line -> true);
    }

    private static void denied(String what, int status, Supplier<DreamBook> made, Predicate<DreamBook> call) {
        x = made.get();
        boolean answer = call.test(x);
        bad(what, answer, status);
        compare(what, x, made, line -> true);
    }

    // -------- TRAYS

    private static void trays() {
        about = "promise 5";
        int[][] noTray = {{-1, 0, 1}, {4, 0, 1}, {MIN, 0, 1}, {MAX, 0, 1}, {0, -1, 1}, {0, 4, 1}, {0, MIN, 1}, {3, MAX, 1},
            {4, 0, 61}, {0, 4, 61}, {-1, 0, -1}, {0, -1, -1}};
        for (int[] v : noTray) {
            denied("tray " + v[0] + " sort " + v[1], 1, ALL, b -> b.tray(v[0], v[1], v[2]));
        }
        for (int many : new int[] {61, 62, 100, MAX}) {
            denied("tray of " + many, 5, ALL, b -> b.tray(0, 0, many));
            denied("tray of " + many, 5, MADE, b -> b.tray(3, 3, many));
        }
        for (int many : new int[] {-1, -2, MIN}) {
            denied("tray of " + many, 6, ALL, b -> b.tray(0, 0, many));
            denied("tray of " + many, 6, MADE, b -> b.tray(3, 3, many));
        }
        for (int t : new int[] {-1, 4, MIN, MAX}) {
            about = "promise 6";
            denied("write " + t, 1, ALL, b -> b.write(t, 0, 5));
            denied("write " + t, 1, ALL, b -> b.write(t, -1, 5));
            about = "promise 7";
            refused("read " + t, 1, ALL, b -> b.read(t, 0));
        }
        about = "promise 6";
        denied("write to a missing one", 3, ALL, b -> b.write(3, 0, 5));
        denied("write to a missing one", 3, ALL, b -> b.write(3, -1, 5));
        about = "promise 7";
        refused("read of a missing one", 3, ALL, b -> b.read(3, 0));
        refused("read of a missing one", 3, MADE, b -> b.read(0, 60));
        int[][] places = {{0, -1}, {0, 3}, {1, 1}, {2, 9}, {0, MIN}, {0, MAX}};
        for (int[] v : places) {
            about = "promise 6";
            denied("write to place " + v[1], 4, ALL, b -> b.write(v[0], v[1], 5));
            about = "promise 7";
            refused("read of place " + v[1], 4, ALL, b -> b.read(v[0], v[1]));
        }
    }

    private static void pour() {
        about = "promise 8";
        // the tray, the place, the other tray, its place, how many, the status
        int[][] calls = {
            {-1, 0, 1, 0, 1, 1}, {4, 0, 1, 0, 1, 1}, {1, 0, -1, 0, 1, 1}, {1, 0, 4, 0, 1, 1}, {3, 0, 4, 0, 1, 1}, {4, 0, 3, 0, -1, 1},
            {3, 0, 0, 0, 1, 3}, {0, 0, 3, 0, 1, 3}, {3, 0, 3, 0, 0, 3}, {3, -1, 0, -1, -1, 3}, {0, 0, 3, 0, -1, 3},
            {0, 0, 1, 0, 1, 11}, {1, 0, 0, 0, 1, 11}, {0, 0, 1, 0, -1, 11}, {0, -1, 2, 0, 1, 11}, {0, 0, 1, 0, 0, 11},
            {1, 0, 2, 0, -1, 6}, {0, -1, 0, -1, -1, 6}, {0, 0, 0, 0, MIN, 6}, {0, 4, 0, 4, -1, 6},
            {2, -1, 1, 0, 1, 4}, {2, 0, 1, -1, 1, 4}, {2, 0, 1, 0, 2, 4}, {1, 0, 2, 0, 2, 4}, {2, 0, 1, 1, 1, 4}, {1, 1, 2, 0, 1, 4},
            {2, 9, 1, 0, 1, 4}, {1, 0, 2, 9, 1, 4}, {0, 1, 0, 0, 3, 4}, {0, 0, 0, 1, 3, 4}, {0, 0, 0, 0, 4, 4}, {0, 0, 0, 4, 0, 4},
            {0, 4, 0, 0, 0, 4}, {0, 1, 0, 1, MAX, 4}, {0, MAX, 0, 0, 1, 4}, {0, 0, 0, MAX, MAX, 4}, {0, -1, 0, 0, 0, 4}, {0, 0, 0, MIN, 1, 4}};
        for (int[] v : calls) {
            denied("pour " + v[0] + " " + v[1] + " " + v[2] + " " + v[3] + " " + v[4], v[5], ALL, b -> b.pour(v[0], v[1], v[2], v[3], v[4]));
        }
    }

    // -------- texts

    private static void feedTexts() {
        about = "promise 9";
        x = FULL.get();
        x.turns(9);
        due("a 46th feed", x.feed(1, 2, 3, 4, 5), NONE);
        due("it has no STATUS", x.status(), 2);
        compare("a 46th feed", x, FULL, line -> true);
        about = "promise 10";
        for (int n : new int[] {-1, 41, MIN, MAX, 901}) {
            refused("book " + n, 5, ALL, b -> b.book(n));
        }
        refused("book 901", 5, FULL, b -> b.book(901));
        refused("book 1", 5, MADE, b -> b.book(1));
        about = "promise 11";
        for (int n : new int[] {-1, 41, MIN, MAX, 300, 301}) {
            refused("nights " + n, 5, ALL, b -> b.nights(n));
        }
        refused("nights 301", 5, FULL, b -> b.nights(301));
        refused("nights 900", 5, FULL, b -> b.nights(900));
        refused("nights 1", 5, MADE, b -> b.nights(1));
    }

    private static void faultyTexts() {
        Predicate<String> stays = line -> !line.startsWith("fault") && !line.startsWith("tape");
        String[] texts = {"A", "a", "thing", "thing a;thing a;", "thing a;rule r of a means 100;", "thing a;rule r of a means 1;note r strikes r;note r strikes r;",
            times(10, "thing #;") + "thing;", "thing a;person p;rule r of a means 9;dream d a;strike r;"};
        int[] faults = {1, 2, 2, 3, 4, 5, 6, 2};
        for (int i = 0; i < texts.length; i++) {
            about = "promise 10";
            x = withEmptyTape();
            bad("book " + texts[i], book(texts[i]), 10);
            due("fault", x.fault(0), faults[i]);
            compare("book " + texts[i], x, ALL, stays);
            x = withEmptyTape();
            book(texts[i]);
            due("the tape is empty", x.feed(0, 0, 0, 0, 0), 20);
        }
        about = "promise 11";
        String[] nights = {"A", "end;", "loop 1;", "any for a;", "loop 0;end;", times(31, "stop;"), "loop 1;loop 1;loop 1;loop 1;end;end;end;end;"};
        int[] kinds = {1, 2, 2, 3, 4, 6, 7};
        for (int i = 0; i < nights.length; i++) {
            x = withEmptyTape();
            bad("nights " + nights[i], nights(nights[i]), 10);
            due("fault", x.fault(0), kinds[i]);
            compare("nights " + nights[i], x, ALL, stays);
            x = withEmptyTape();
            nights(nights[i]);
            due("the tape is empty", x.feed(0, 0, 0, 0, 0), 20);
        }
    }

    /** Its tape is emptied by nights that are refused, too. */
    private static DreamBook withEmptyTape() {
        DreamBook b = withAll();
        due("the tape was no nights", b.nights(40), NONE);
        return b;
    }

    // -------- what is told

    private static void whatIsTold() {
        about = "promise 13";
        for (int what : new int[] {-1, 10, MIN, MAX}) {
            refused("many " + what, 5, ALL, b -> b.many(what));
        }
        for (int n : new int[] {-1, -2, MIN, MAX, 5}) {
            about = "promise 14";
            refused("rule " + n, 2, ALL, b -> b.rule(n, 0));
            refused("rule " + n, 2, ALL, b -> b.rule(n, 8));
            about = "promise 15";
            refused("person " + n, 2, ALL, b -> b.person(n, 0));
            refused("person " + n, 2, ALL, b -> b.person(n, 2));
            about = "promise 16";
            refused("turns " + n, 2, ALL, b -> b.turns(n));
            about = "promise 17";
            refused("note " + n, 2, ALL, b -> b.note(n, 0));
            refused("note " + n, 2, ALL, b -> b.note(n, 2));
            about = "promise 18";
            refused("dream " + n, 2, ALL, b -> b.dream(n, 0));
            refused("dream " + n, 2, ALL, b -> b.dream(n, 3));
            about = "promise 19";
            refused("dreamAt " + n, 2, ALL, b -> b.dreamAt(n, 0));
            refused("dreamAt " + n, 2, ALL, b -> b.dreamAt(n, -1));
        }
        about = "one more than there are";
        refused("person", 2, ALL, b -> b.person(2, 0));
        refused("turns", 2, ALL, b -> b.turns(2));
        refused("note", 2, ALL, b -> b.note(2, 0));
        refused("dream", 2, ALL, b -> b.dream(3, 0));
        refused("dreamAt", 2, ALL, b -> b.dreamAt(3, 0));
        about = "of none";
        refused("rule", 2, MADE, b -> b.rule(0, 0));
        refused("person", 2, MADE, b -> b.person(0, 0));
        refused("turns", 2, MADE, b -> b.turns(0));
        refused("note", 2, PLAIN, b -> b.note(0, 0));
        refused("dream", 2, PLAIN, b -> b.dream(0, 0));
        about = "a number that can't be";
        for (int what : new int[] {-1, MIN, MAX, 8}) {
            refused("rule 0 " + what, 5, ALL, b -> b.rule(0, what));
            refused("person 0 " + what, 5, ALL, b -> b.person(0, what));
            refused("note 0 " + what, 5, ALL, b -> b.note(0, what));
            refused("dream 0 " + what, 5, ALL, b -> b.dream(0, what));
        }
        refused("person 0 2", 5, ALL, b -> b.person(0, 2));
        refused("note 0 2", 5, ALL, b -> b.note(0, 2));
        refused("dream 0 3", 5, ALL, b -> b.dream(0, 3));
        about = "promise 14";
        for (int what = 2; what < 6; what++) {
            int field = what;
            refused("rule 0 " + what, 8, ALL, b -> b.rule(0, field));
        }
        about = "promise 19";
        refused("dreamAt", 8, ALL, b -> b.dreamAt(0, 2));
        refused("dreamAt", 8, ALL, b -> b.dreamAt(1, 1));
        refused("dreamAt", 8, ALL, b -> b.dreamAt(0, -1));
        refused("dreamAt", 8, ALL, b -> b.dreamAt(0, MAX));
        refused("dreamAt", 8, ALL, b -> b.dreamAt(0, MIN));
    }

    private static void copyDream() {
        about = "promise 20";
        // the dream, the tray, the status: 1, 3, 2, 4, asked in this order
        int[][] calls = {{0, -1, 1}, {0, 4, 1}, {9, 4, 1}, {0, MIN, 1}, {0, MAX, 1}, {0, 3, 3}, {9, 3, 3}, {-1, 3, 3}, {-1, 1, 2}, {3, 1, 2},
            {3, 0, 2}, {NONE, 0, 2}, {MAX, 0, 2}, {0, 1, 4}, {2, 1, 4}};
        for (int[] v : calls) {
            refused("copyDream " + v[0] + " " + v[1], v[2], ALL, b -> b.copyDream(v[0], v[1]));
        }
    }

    // -------- which RULES stand

    private static void standing() {
        for (int r : new int[] {-1, 5, MIN, MAX, 32, 12}) {
            about = "promise 21";
            refused("standing " + r, 2, ALL, b -> b.standing(r));
            about = "promise 24";
            refused("strikes " + r, 2, ALL, b -> b.strikes(r, 0));
            refused("strikes " + r, 2, ALL, b -> b.strikes(r, 2));
            about = "promise 25";
            denied("strike " + r, 2, ALL, b -> b.strike(r));
            about = "promise 26";
            denied("mend " + r, 2, ALL, b -> b.mend(r));
            about = "promise 27";
            refused("print " + r, 2, ALL, b -> b.print(r));
        }
        about = "promise 23";
        for (int k : new int[] {-1, 0, MIN, MAX}) {
            refused("stable " + k, 8, ALL, b -> b.stable(k));
        }
        refused("stable 1", 8, MADE, b -> b.stable(1));
        refused("stable -1", 8, MADE, b -> b.stable(-1));
        about = "promise 24";
        for (int what : new int[] {-1, 2, MIN, MAX}) {
            refused("strikes 0 " + what, 5, ALL, b -> b.strikes(0, what));
        }
        about = "promise 25";
        denied("strike", 9, ALL, b -> b.strike(1));
        about = "promise 26";
        for (int r : new int[] {0, 2, 3, 4}) {
            denied("mend " + r, 9, ALL, b -> b.mend(r));
        }
    }

    // -------- READINGS

    private static void readings() {
        // the dream, the person, the season
        int[][] wrong = {{-1, 0, 0}, {3, 0, 0}, {MIN, 0, 0}, {MAX, 0, 0}, {-2, 0, 0}, {0, 2, 0}, {0, -2, 0}, {0, MIN, 0}, {0, MAX, 0}, {0, 0, 2},
            {0, 0, -2}, {0, 0, MIN}, {0, 0, MAX}, {3, 2, 2}};
        for (int[] v : wrong) {
            String which = " " + v[0] + " " + v[1] + " " + v[2];
            about = "promise 28";
            refused("reading" + which, 2, ALL, b -> b.reading(v[0], v[1], v[2]));
            about = "promise 30";
            refused("ruleAt" + which, 2, ALL, b -> b.ruleAt(v[0], 0, v[1], v[2]));
            refused("ruleAt" + which, 2, ALL, b -> b.ruleAt(v[0], -1, v[1], v[2]));
            about = "promise 31";
            refused("valueAt" + which, 2, ALL, b -> b.valueAt(v[0], 0, v[1], v[2]));
            refused("valueAt" + which, 2, ALL, b -> b.valueAt(v[0], 9, v[1], v[2]));
            about = "promise 32";
            refused("night" + which, 2, ALL, b -> b.night(v[0], v[1], v[2]));
            about = "promise 33";
            refused("counting" + which, 2, ALL, b -> b.counting(v[0], v[1], v[2]));
        }
        refused("of no dreams", 2, PLAIN, b -> b.counting(0, 0, 0));
        for (int k : new int[] {-1, 2, 6, MIN, MAX}) {
            about = "promise 30";
            refused("ruleAt place " + k, 8, ALL, b -> b.ruleAt(0, k, NONE, NONE));
            about = "promise 31";
            refused("valueAt place " + k, 8, ALL, b -> b.valueAt(0, k, NONE, NONE));
        }
        about = "promise 30";
        refused("none counts", 8, ALL, b -> b.ruleAt(1, 0, NONE, NONE));
        about = "promise 35";
        refused("none was used", 8, PLAIN, b -> b.mostUsed());
        refused("there is none", 8, MADE, b -> b.mostUsed());
    }

    private static void readRow() {
        about = "promise 29";
        // the tray, how many, the person, the season, the status: 1, 3, 4, 5, 2, asked in this order
        int[][] calls = {{-1, 1, 0, 0, 1}, {4, 1, 0, 0, 1}, {4, 0, 9, 9, 1}, {3, 1, 0, 0, 3}, {3, 0, 9, 9, 3}, {3, 61, 9, 9, 3},
            {0, 4, 0, 0, 4}, {1, 2, 0, 0, 4}, {2, 10, 0, 0, 4}, {0, MAX, 9, 9, 4}, {1, 9, 9, 9, 4},
            {2, 9, 0, 0, 5}, {2, 0, 0, 0, 5}, {0, 0, 9, 9, 5}, {0, -1, 0, 0, 5}, {0, MIN, 0, 0, 5}, {2, 9, 9, 9, 5},
            {0, 1, 2, 0, 2}, {0, 1, -2, 0, 2}, {0, 1, 0, 2, 2}, {0, 1, 0, -2, 2}, {1, 1, 0, 0, 2}};
        for (int[] v : calls) {
            refused("readRow " + v[0] + " " + v[1] + " " + v[2] + " " + v[3], v[4], ALL, b -> b.readRow(v[0], v[1], v[2], v[3]));
        }
        for (long number : new long[] {-1, 3, 10, 32, MIN, MAX, 1L << 32, Long.MIN_VALUE, Long.MAX_VALUE, -1L << 32}) {
            for (int k = 0; k < 3; k++) {
                int place = k;
                Supplier<DreamBook> made = () -> withRow(place, number);
                refused("no thing: " + number, 2, made, b -> b.readRow(3, 3, NONE, NONE));
                x = made.get();
                due("those ahead of it", k == 0 ? 0 : x.readRow(3, k, NONE, NONE) * k, k == 0 ? 0 : 10);
            }
        }
    }

    /** In the tray 3 things, one of them another number. */
    private static DreamBook withRow(int place, long number) {
        DreamBook b = new DreamBook();
        take(b, "thing a;thing b;thing c;rule ra of a means 10;rule rb of b means less 5;");
        b.tray(3, 3, 3);
        b.write(3, 1, 1);
        b.write(3, 2, 2);
        b.write(3, place, number);
        return b;
    }

    private static void nights() {
        about = "promise 32";
        refused("beyond 9,999", 7, FAR, b -> b.night(0, 0, NONE));
        refused("beyond 9,999", 7, FAR, b -> b.night(2, 0, NONE));
        refused("beyond -9,999", 7, FAR, b -> b.night(1, 1, NONE));
        refused("beyond -9,999", 7, FAR, b -> b.night(2, 1, NONE));
        refused("for nobody", 2, FAR, b -> b.night(0, NONE, NONE));
        refused("in no such season", 2, FAR, b -> b.night(0, 0, 0));
        x = FAR.get();
        good("up to 9,999", x.person(0, 1), 9999);
        good("down to -9,999", x.person(1, 1), -9999);
        good("back from it", x.night(3, 0, NONE), 9998);
        x.print(1);
        good("back from it", x.night(3, 1, NONE), -9998);
        bad("beyond it by far", x.night(2, 0, NONE), 7);
    }

    // -------- QUARRELS

    private static void quarrels() {
        int[][] none = {{-1, 0}, {0, -1}, {5, 0}, {0, 5}, {5, 5}, {-1, -1}, {MIN, MAX}, {0, MAX}, {MAX, 0}};
        for (int[] v : none) {
            about = "promise 36";
            refused("quarrel " + v[0] + " " + v[1], 2, ALL, b -> b.quarrel(v[0], v[1]));
            about = "promise 38";
            refused("shown " + v[0] + " " + v[1], 2, ALL, b -> b.shown(v[0], v[1]));
        }
        for (int r = 0; r < 5; r++) {
            int rule = r;
            about = "promise 36";
            refused("quarrel with itself", 5, ALL, b -> b.quarrel(rule, rule));
            about = "promise 38";
            refused("shown with itself", 5, ALL, b -> b.shown(rule, rule));
        }
        refused("no quarrel", 8, ALL, b -> b.shown(0, 1));
        refused("no quarrel", 8, ALL, b -> b.shown(3, 4));
        about = "promise 39";
        for (int k : new int[] {-1, 1, 2, MIN, MAX}) {
            refused("foundAt " + k, 8, ALL, b -> b.foundAt(k));
        }
        refused("none was found", 8, PLAIN, b -> b.foundAt(0));
    }

    // -------- looked for

    private static void lookedFor() {
        int[][] nobody = {{2, 0}, {-2, 0}, {0, 2}, {0, -2}, {MIN, 0}, {0, MAX}};
        for (int[] v : nobody) {
            String whom = " " + v[0] + " " + v[1];
            about = "promise 42";
            refused("shortest" + whom, 2, ALL, b -> b.shortest(0, v[0], v[1]));
            refused("shortest" + whom, 2, ALL, b -> b.shortest(1000, v[0], v[1]));
            about = "promise 43";
            refused("rows" + whom, 2, ALL, b -> b.rows(1, 0, v[0], v[1]));
            refused("rows" + whom, 2, ALL, b -> b.rows(5, -1000, v[0], v[1]));
            about = "promise 45";
            refused("stock" + whom, 2, ALL, b -> b.stock(0, v[0], v[1]));
            refused("stock" + whom, 2, ALL, b -> b.stock(1000, v[0], v[1]));
            about = "promise 50";
            refused("bargain" + whom, 2, ALL, b -> b.bargain(v[0], v[1]));
        }
        for (int v : new int[] {1000, -1000, MIN, MAX}) {
            about = "promise 42";
            refused("shortest " + v, 5, ALL, b -> b.shortest(v, NONE, NONE));
            about = "promise 43";
            refused("rows " + v, 5, ALL, b -> b.rows(1, v, NONE, NONE));
            about = "promise 45";
            refused("stock " + v, 5, ALL, b -> b.stock(v, NONE, NONE));
        }
        about = "promise 43";
        for (int n : new int[] {0, 5, -1, MIN, MAX}) {
            refused("rows of " + n, 5, ALL, b -> b.rows(n, 0, NONE, NONE));
        }
        about = "promise 42";
        refused("shortest 999", 8, ALL, b -> b.shortest(999, NONE, NONE));
        refused("shortest -999", 8, ALL, b -> b.shortest(-999, NONE, NONE));
        refused("shortest of no things", 8, MADE, b -> b.shortest(0, NONE, NONE));
        about = "promise 44";
        refused("lucky", 8, ALL, b -> b.lucky());
        refused("lucky", 8, MADE, b -> b.lucky());
        about = "promise 45";
        refused("stock 999", 8, ALL, b -> b.stock(999, NONE, NONE));
        refused("stock -999", 8, ALL, b -> b.stock(-999, NONE, NONE));
        refused("stock of no dreams", 8, MADE, b -> b.stock(1, NONE, NONE));
        about = "promise 46";
        refused("stockSet", 8, PLAIN, b -> b.stockSet());
        lookedForInDreams();
    }

    private static void lookedForInDreams() {
        for (int n : new int[] {-1, 3, -2, MIN, MAX}) {
            about = "promise 47";
            refused("whose dream " + n, 2, ALL, b -> b.whose(n, NONE, 0));
            about = "promise 48";
            refused("when dream " + n, 2, ALL, b -> b.when(n, NONE, 0));
            about = "promise 49";
            refused("twin " + n, 2, ALL, b -> b.twin(n));
        }
        for (int n : new int[] {-2, 2, MIN, MAX}) {
            about = "promise 47";
            refused("whose season " + n, 2, ALL, b -> b.whose(0, n, 0));
            about = "promise 48";
            refused("when person " + n, 2, ALL, b -> b.when(0, n, 0));
        }
        about = "promise 49";
        for (int d = 0; d < 3; d++) {
            int dream = d;
            refused("twin " + d, 8, ALL, b -> b.twin(dream));
        }
        about = "promise 50";
        refused("bargain", 8, PLAIN, b -> b.bargain(0, 0));
        refused("bargain", 8, MADE, b -> b.bargain(NONE, NONE));
    }

    // -------- WEEKS, NIGHTS, MARKS

    private static void weeks() {
        int[][] calls = {{1, 2, 0, 2}, {1, -2, 0, 2}, {1, 0, 2, 2}, {1, 0, -2, 2}, {0, 2, 0, 2}, {7, 0, 2, 2}, {1, MAX, 0, 2},
            {0, 0, 0, 5}, {7, 0, 0, 5}, {-1, 0, 0, 5}, {MIN, 0, 0, 5}, {MAX, 0, 0, 5}};
        for (int[] v : calls) {
            about = "promise 51";
            denied("week " + v[0] + " " + v[1] + " " + v[2], v[3], ALL, b -> b.week(v[0], v[1], v[2]));
            about = "promise 52";
            denied("atLeast " + v[0] + " " + v[1] + " " + v[2], v[3], ALL, b -> b.atLeast(v[0], 0, v[1], v[2]));
        }
        for (int v : new int[] {1000, -1000, MIN, MAX}) {
            denied("atLeast " + v, 5, ALL, b -> b.atLeast(1, v, NONE, NONE));
            denied("atLeast " + v, 5, PLAIN, b -> b.atLeast(1, v, NONE, NONE));
            denied("atLeast " + v, 2, ALL, b -> b.atLeast(1, v, 2, NONE));
        }
        denied("no dreams", 8, PLAIN, b -> b.atLeast(6, 999, 0, 0));
        denied("no dreams", 8, MADE, b -> b.atLeast(1, 0, NONE, NONE));
        about = "promise 51";
        denied("no dreams", 8, PLAIN, b -> b.week(6, 0, 0));
        denied("no dreams", 5, PLAIN, b -> b.week(7, 0, 0));
        denied("no dreams", 2, PLAIN, b -> b.week(7, 1, 0));
    }

    private static void lives() {
        about = "promise 53";
        for (int seed : new int[] {-1, 10000, MIN, MAX}) {
            refused("live " + seed, 5, ALL, b -> b.live(seed));
            refused("live " + seed, 5, PLAIN, b -> b.live(seed));
        }
        refused("no nights", 8, PLAIN, b -> b.live(0));
        refused("no nights", 8, MADE, b -> b.live(9999));
        about = "promise 54";
        for (int what : new int[] {-1, 5, MIN, MAX}) {
            refused("lived " + what, 5, ALL, b -> b.lived(what));
            refused("lived " + what, 5, MADE, b -> b.lived(what));
        }
        refused("there was none", 8, PLAIN, b -> b.lived(0));
        refused("there was none", 8, MADE, b -> b.lived(4));
        about = "promise 55";
        int[][] calls = {{-1, 0, 1, 2}, {2, 0, 1, 2}, {-2, 0, 1, 2}, {-1, -1, 0, 2}, {MIN, 0, 1, 2}, {MAX, 10000, 21, 2}, {0, -1, 1, 5}, {0, 10000, 1, 5},
            {0, 0, 0, 5}, {0, 0, 21, 5}, {0, 0, -1, 5}, {0, 0, MIN, 5}, {0, 0, MAX, 5}, {0, 9999, 2, 5}, {0, 9980, 21, 5}, {0, 9981, 20, 5}, {0, 9981, 21, 5},
            {0, MAX, 1, 5}, {0, MAX, 20, 5}, {0, MIN, 20, 5}, {0, -1, 20, 5}, {0, 5000, MAX, 5}};
        for (int[] v : calls) {
            denied("mean " + v[0] + " " + v[1] + " " + v[2], v[3], ALL, b -> b.mean(v[0], v[1], v[2]));
        }
        denied("no nights", 8, PLAIN, b -> b.mean(0, 9999, 1));
        denied("no nights", 5, PLAIN, b -> b.mean(0, 9999, 2));
        denied("no nights", 2, PLAIN, b -> b.mean(1, 9999, 2));
    }

    private static void marks() {
        about = "promise 56";
        refused("a fourth mark", 7, FULL, b -> b.mark());
        about = "promise 57";
        refused("no mark", 8, PLAIN, b -> b.back());
        refused("no mark", 8, MADE, b -> b.back());
    }

    // -------- what only asks

    private static void stays(String what, ToLongFunction<DreamBook> call, String but) {
        x = ALL.get();
        call.applyAsLong(x);
        due("status of " + what, x.status(), 0);
        compare(what, x, ALL, line -> but.isEmpty() || !line.startsWith(but));
    }

    private static void askingChangesNothing() {
        about = "asking changes nothing";
        stays("read", b -> b.read(2, 8), "");
        stays("many", b -> b.many(9), "");
        stays("rule", b -> b.rule(2, 7), "");
        stays("reading", b -> b.reading(0, 0, 1), "");
        stays("readRow", b -> b.readRow(2, 8, 1, 1), "");
        stays("ruleAt", b -> b.ruleAt(0, 0, 0, NONE), "");
        stays("valueAt", b -> b.valueAt(2, 1, 0, 1), "");
        stays("counting", b -> b.counting(0, 0, NONE), "");
        stays("idle", b -> b.idle(), "");
        stays("mostUsed", b -> b.mostUsed(), "");
        stays("standing", b -> b.standing(2), "");
        stays("stables", b -> b.stables(), "");
        stays("strikes", b -> b.strikes(3, 0), "");
        stays("quarrel", b -> b.quarrel(0, 4), "");
        stays("quarrels", b -> b.quarrels(), "");
        stays("fewest", b -> b.fewest(), "");
        stays("fewestSet", b -> b.fewestSet(), "");
        stays("rows", b -> b.rows(4, 3, 0, 0), "");
        stays("whose", b -> b.whose(0, NONE, 2), "");
        stays("when", b -> b.when(0, NONE, 2), "");
        stays("bargain", b -> b.bargain(NONE, NONE), "");
        stays("copyDream", b -> b.copyDream(1, 2), "tray 2");
        stays("shown", b -> b.shown(4, 0), "found");
        stays("shortest", b -> b.shortest(0, NONE, NONE), "found");
        stays("stock", b -> b.stock(0, 0, NONE), "stock");
        stays("week", b -> b.week(6, 0, 0) ? 1 : 0, "fraction");
        stays("atLeast", b -> b.atLeast(6, 3, 0, 0) ? 1 : 0, "fraction");
        stays("mean", b -> b.mean(0, 9980, 20) ? 1 : 0, "fraction");
    }
}
