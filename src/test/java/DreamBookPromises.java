/** The promises of the document, one after the other, on small books whose answers were worked out by hand. */
public final class DreamBookPromises extends Checks {
    /** Rules ra to rd are 0 to 3; what x, y, z mean is told at readings(). */
    private static final String SMALL = "thing a;thing b;thing c;person p;person w widow;season s;season t turns;"
        + "rule ra of a means 5;rule rb of b means less 3 by a;rule rc of b means 2 unless c for p;rule rd of c means 4 in t;"
        + "dream x a b costs 4 chance 2;dream y b;dream z b c chance 3;";

    public static void main(String[] args) {
        newObject();
        statusAndFractions();
        trays();
        pour();
        feed();
        bookTaken();
        bookFaults();
        bookLimits();
        nightsTaken();
        nightsFaults();
        fault();
        many();
        rule();
        personsAndSeasons();
        notesAndDreams();
        copyDream();
        standing();
        stables();
        strikes();
        strikeMendPrint();
        readings();
        readRow();
        ruleAtValueAt();
        night();
        countingIdleMostUsed();
        quarrel();
        shownFoundAt();
        fewest();
        shortestRows();
        lucky();
        stock();
        whoseWhen();
        twinBargain();
        week();
        atLeast();
        liveSteps();
        liveDraws();
        liveLimit();
        mean();
        marks();
        finish("all promises hold");
    }

    // -------- promises

    private static void newObject() {
        about = "promise 1";
        x = new DreamBook();
        due("status", x.status(), 0);
        fraction(0, 1);
        due("fault", x.fault(0), NONE);
        for (int t = 0; t < 4; t++) {
            bad("read", x.read(t, 0), 3);
        }
        for (int what = 0; what < 10; what++) {
            good("many", x.many(what), 0);
        }
        bad("live", x.live(0), 8);
        bad("back", x.back(), 8);
        bad("lived", x.lived(0), 8);
        bad("stockSet", x.stockSet(), 8);
        bad("foundAt", x.foundAt(0), 8);
        bad("book 1", x.book(1), 5);
        due("NONE", DreamBook.NONE, -1);
    }

    private static void statusAndFractions() {
        about = "promise 2";
        fresh(SMALL);
        bad("turns", x.turns(9), 2);
        x.fault(0);
        x.feed(0, 0, 0, 0, 0);
        x.top();
        x.bottom();
        due("status stays", x.status(), 2);
        x.turns(0);
        due("status", x.status(), 0);
        about = "promise 3";
        good("week", x.week(1, 1, NONE));
        fraction(-2, 3);
        bad("week", x.week(0, 1, NONE), 5);
        fraction(-2, 3);
        about = "promise 4";
        good("atLeast", x.atLeast(1, 999, NONE, NONE));
        fraction(0, 1);
    }

    private static void trays() {
        x = new DreamBook();
        about = "promise 5";
        bad("tray", x.tray(-1, 0, 61), 1);
        bad("tray", x.tray(4, 0, -1), 1);
        bad("tray", x.tray(0, -1, 61), 1);
        bad("tray", x.tray(0, 4, 1), 1);
        bad("tray", x.tray(0, 0, 61), 5);
        bad("tray", x.tray(0, 0, MAX), 5);
        bad("tray", x.tray(0, 0, -1), 6);
        bad("tray", x.tray(0, 0, MIN), 6);
        bad("still missing", x.read(0, 0), 3);
        good("tray", x.tray(0, 3, 60));
        good("read", x.read(0, 59), 0);
        good("tray", x.tray(1, 0, 0));
        bad("read", x.read(1, 0), 4);
        about = "promise 6";
        long[][] cut = {{300, 44}, {70000, 4464}, {1L << 40 | 5, 5}, {Long.MIN_VALUE, Long.MIN_VALUE}};
        for (int sort = 0; sort < 4; sort++) {
            good("tray", x.tray(2, sort, 3));
            good("write", x.write(2, 1, cut[sort][0]));
            good("read", x.read(2, 1), cut[sort][1]);
            good("write", x.write(2, 2, 1L << (8 << sort) - 1));
            good("read", x.read(2, 2), -1L << (8 << sort) - 1);
            good("read", x.read(2, 0), 0);
        }
        bad("write", x.write(4, 0, 1), 1);
        bad("write", x.write(-1, 0, 1), 1);
        bad("write", x.write(3, 9, 1), 3);
        bad("write", x.write(2, 3, 1), 4);
        bad("write", x.write(2, -1, 1), 4);
        about = "promise 7";
        bad("read", x.read(4, 0), 1);
        bad("read", x.read(3, 0), 3);
        bad("read", x.read(2, 3), 4);
        bad("read", x.read(2, MIN), 4);
        good("write", x.write(2, 0, -1));
        good("read -1", x.read(2, 0), -1);
        about = "promise 5";
        good("tray anew", x.tray(2, 1, 2));
        good("read", x.read(2, 0), 0);
    }

    private static void pour() {
        about = "promise 8";
        x = new DreamBook();
        x.tray(0, 1, 5);
        x.tray(1, 1, 3);
        x.tray(2, 2, 5);
        for (int k = 0; k < 5; k++) {
            x.write(0, k, 10 + k);
        }
        good("pour", x.pour(0, 0, 0, 1, 4));
        long[] on = {10, 10, 11, 12, 13};
        for (int k = 0; k < 5; k++) {
            good("read", x.read(0, k), on[k]);
        }
        good("pour", x.pour(0, 2, 0, 0, 3));
        long[] back = {11, 12, 13, 12, 13};
        for (int k = 0; k < 5; k++) {
            good("read", x.read(0, k), back[k]);
        }
        good("pour", x.pour(0, 3, 1, 1, 2));
        good("read", x.read(1, 0), 0);
        good("read", x.read(1, 1), 12);
        good("read", x.read(1, 2), 13);
        good("pour nothing", x.pour(0, 5, 1, 3, 0));
        bad("pour", x.pour(4, 0, 3, 0, -1), 1);
        bad("pour", x.pour(3, 0, -1, 0, -1), 1);
        bad("pour", x.pour(3, 0, 0, 0, -1), 3);
        bad("pour", x.pour(0, 0, 3, 0, -1), 3);
        bad("pour", x.pour(0, 0, 2, 0, -1), 11);
        bad("pour", x.pour(0, -1, 1, 0, -1), 6);
        bad("pour", x.pour(0, -1, 1, 0, 1), 4);
        bad("pour", x.pour(0, 0, 1, -1, 1), 4);
        bad("pour", x.pour(0, 0, 1, 0, 4), 4);
        bad("pour", x.pour(0, 4, 1, 0, 2), 4);
        bad("pour", x.pour(0, 6, 1, 0, 0), 4);
        bad("pour", x.pour(0, MAX, 1, 0, MAX), 4);
        bad("pour", x.pour(0, 0, 1, MAX, 1), 4);
        good("nothing came", x.read(1, 0), 0);
    }

    private static void feed() {
        about = "promise 9";
        x = new DreamBook();
        x.turns(0);
        due("feed", x.feed(0x7468696e, 0x67206f77, 0x6c3b7468, 0x696e6720, 0x7a3b2020), 20);
        due("status stays", x.status(), 2);
        good("book", x.book(18), 0);
        good("two things", x.many(0), 2);
        for (int i = 1; i <= 45; i++) {
            due("feed", x.feed(0x20202020, 0, -1, 0, 0), 20 * i);
        }
        due("feed", x.feed(0, 0, 0, 0, 0), NONE);
        due("status stays", x.status(), 0);
        bad("book", x.book(901), 5);
        bad("book", x.book(900), 10);
        due("tape is empty", x.feed(0, 0, 0, 0, 0), 20);
    }

    private static void bookTaken() {
        about = "promise 10";
        fresh(SMALL);
        due("four rules", x.many(3), 4);
        x.night(0, 0, NONE);
        x.strike(1);
        due("nights", nights("stop;"), 1);
        feed(SMALL);
        bad("book", x.book(-1), 5);
        bad("book", x.book(SMALL.length() + 20), 5);
        good("all stays", x.many(7), 1);
        good("book", x.book(SMALL.length()), 4);
        good("never used", x.rule(0, 6), 0);
        good("none is out", x.many(9), 0);
        good("sums", x.person(0, 1), 0);
        good("dreamt", x.many(7), 0);
        bad("no nights", x.live(0), 8);
        bad("tape is empty", x.book(1), 5);
        nights("stop;");
        x.night(0, 0, NONE);
        faulty("thing a^", 2);
        good("the old one stays", x.many(3), 4);
        good("dreamt", x.many(7), 1);
        good("nights stay", x.live(0), 1);
        bad("tape is empty", x.book(1), 5);
        good("book of nothing", x.book(0), 0);
        good("things", x.many(0), 0);
        feed("\n thing\na;\n\n person p widow;season s turns;rule r of a means less 07 by a unless a for p in s;dream d a a a a a a costs 0 chance 99;");
        good("book", x.book(134), 1);
        good("means", x.rule(0, 1), -7);
        for (int what = 2; what < 6; what++) {
            good("rule", x.rule(0, what), 0);
        }
        good("six things", x.dream(0, 0), 6);
        feed(SMALL);
        x.book(SMALL.length());
        String small = "thing a;thing b;person p;rule r of b means 4 unless a;rule q of b means 2;note q strikes q;dream d b;dream e a b chance 1;";
        feed(small);
        good("book behind a greater one", x.book(small.length()), 2);
        good("in force", x.many(8), 1);
        good("open", x.standing(1), 2);
        good("strikes", x.strikes(0, 0) + x.strikes(0, 1), 0);
        good("d", x.reading(0, NONE, NONE), 4);
        good("e", x.reading(1, NONE, NONE), 0);
        good("costs", x.dream(0, 1), 0);
        good("chance", x.dream(0, 2), 1);
        good("chance", x.dream(1, 2), 1);
        feed("thing a;thing b1;");
        bad("first bytes alone", x.book(12), 10);
        feed("thing a;thing b1;");
        good("first bytes alone", x.book(8), 0);
        feed("thing a;rule r of a means9by a;");
        good("no blanks needed", x.book(31), 1);
        good("by", x.rule(0, 2), 0);
    }

    private static void bookFaults() {
        about = "promise 10";
        x = new DreamBook();
        // 1: no token
        faulty("thing a;^A", 1);
        faulty("thing ^\t", 1);
        faulty("thing a^\u00e9;", 1);
        faulty("thing a;rule r of a means ^12345;", 1);
        faulty("^00001", 1);
        faulty("thing a^,", 1);
        // 2: can't stand there
        faulty("^a", 2);
        faulty("^;", 2);
        faulty("^12", 2);
        faulty("^widow", 2);
        faulty("^night", 2);
        faulty("thing^", 2);
        faulty("thing  \n ^", 2);
        faulty("thing a^", 2);
        faulty("thing a \n^", 2);
        faulty("thing ^abcdefghi;", 2);
        faulty("thing ^stop;", 2);
        faulty("thing ^12;", 2);
        faulty("thing a ^b;", 2);
        faulty("thing a ^widow;", 2);
        faulty("person p widow ^widow;", 2);
        faulty("person p ^turns;", 2);
        faulty("season s ^widow;", 2);
        faulty("thing a;rule r ^a;", 2);
        faulty("thing a;rule r of a ^9;", 2);
        faulty("thing a;rule r of a means ^a;", 2);
        faulty("thing a;rule r of a means less ^less 3;", 2);
        faulty("thing a;rule r of a means 3 unless a ^by a;", 2);
        faulty("thing a;rule r of a means 3 by a ^by a;", 2);
        faulty("thing a;person p;season s;rule r of a means 3 in s ^for p;", 2);
        faulty("thing a;rule r of a means 3 ^4;", 2);
        faulty("thing a;dream d^;", 2);
        faulty("thing a;dream d ^costs 3;", 2);
        faulty("thing a;dream d a ^3;", 2);
        faulty("thing a;dream d a chance 2 ^costs 3;", 2);
        faulty("thing a;dream d a costs ^;", 2);
        faulty("thing a;rule r of a means 3;note r ^of r;", 2);
        // 3: names
        faulty("thing a;thing ^a;", 3);
        faulty("thing a;person ^a;", 3);
        faulty("thing a;rule r of ^b means 3;", 3);
        faulty("thing a;rule r of ^r means 3;", 3);
        faulty("thing a;rule r of a means 3 by ^r;", 3);
        faulty("thing a;rule r of a means 3 unless ^z;", 3);
        faulty("thing a;rule r of a means 3 for ^a;", 3);
        faulty("thing a;person p;rule r of a means 3 in ^p;", 3);
        faulty("thing a;dream d ^d;", 3);
        faulty("thing a;dream d a ^b;", 3);
        faulty("thing a;rule r of a means 3;note ^a strikes r;", 3);
        faulty("thing a;rule r of a means 3;note r strikes ^a;", 3);
        faulty("thing a;dream d a;dream ^d a;", 3);
        faulty("rule r of ^a means 3;thing a;", 3);
        // 4: numbers
        faulty("thing a;rule r of a means ^100;", 4);
        faulty("thing a;rule r of a means less ^9999;", 4);
        faulty("thing a;dream d a costs ^100;", 4);
        faulty("thing a;dream d a chance ^0;", 4);
        faulty("thing a;dream d a chance ^100;", 4);
        // 5: notes; others are not told already
        faulty("thing a;rule r of a means 3;rule q of a means 3;note r strikes r;note r strikes q;note q strikes r;note r strikes ^q;", 5);
        faulty("thing a;rule r of a means 3;note r strikes r;note r strikes ^r;", 5);
    }

    private static void bookLimits() {
        about = "promise 10";
        x = new DreamBook();
        String rules = times(12, "rule r# of a means 1;");
        String notes = times(12, "note ra strikes r#;");
        fresh(times(10, "thing #;") + times(4, "person p#;") + times(3, "season s#;") + times(12, "rule r# of a means 1;")
            + times(8, "dream d# a;"));
        good("things", x.many(0), 10);
        good("dreams", x.many(5), 8);
        good("rules", x.many(3), 12);
        fresh("thing a;" + rules + notes);
        good("notes", x.many(4), 12);
        faulty(times(10, "thing #;") + "^thing a", 6);
        faulty(times(4, "person p#;") + "^person ;", 6);
        faulty(times(3, "season s#;") + "^season", 6);
        faulty("thing a;" + rules + "^rule", 6);
        faulty("thing a;" + rules + notes + "^note rb strikes ra;", 6);
        faulty("thing a;" + times(8, "dream d# a;") + "^dream a a;", 6);
        faulty("thing a;dream d a a a a a a ^a;", 6);
        faulty("thing a;dream d a a a a a a ^b;", 3);
        faulty("thing a;dream d a a a a a a ^means;", 2);
        faulty("thing a;dream d a a a a a a ^abcdefghi;", 2);
        feed("thing abcdefgh;dream d abcdefgh;");
        good("eight letters", x.book(32), 0);
        feed("thing a;dream d a chance 100;");
        bad("a number to the last byte", x.book(27), 10);
        due("fault", x.fault(0), 2);
        due("place", x.fault(1), 27);
        fullTapes();
        fullBook();
    }

    private static void fullTapes() {
        String[] signs = {"a", "1", ";", " ", "A"};
        int[] kinds = {2, 1, 2, 0, 1};
        for (int i = 0; i < signs.length; i++) {
            x = new DreamBook();
            feed(times(900, signs[i]));
            due("900 bytes of " + signs[i], x.book(900), kinds[i] == 0 ? 0 : NONE);
            due("fault", x.fault(0), kinds[i]);
        }
        x = new DreamBook();
        feed(times(112, "thing a;").substring(0, 888) + "thing z;    ");
        bad("one more thing than may be told", x.book(900), 10);
        due("fault", x.fault(0), 3);
        due("place", x.fault(1), 14);
    }

    /** As much of all as may be: no call may look behind it. */
    private static void fullBook() {
        fresh(times(10, "thing #;") + times(4, "person p#;") + times(3, "season s#;") + times(12, "rule r# of a means 1;")
            + times(8, "dream d# a;"));
        bad("mostUsed", x.mostUsed(), 8);
        good("idle", x.idle(), 4094);
        good("stables", x.stables(), 1);
        good("twin", x.twin(0), 1);
        good("bargain", x.bargain(NONE, NONE), 0);
        good("lucky", x.lucky(), 1);
        good("fewest", x.fewest(), 0);
        good("stock", x.stock(1, 3, 2), 0);
        good("whose", x.whose(7, 2, 1), 15);
        good("when", x.when(7, 3, 1), 7);
        good("rows", x.rows(4, 4, 3, 2), 1);
        bad("shortest", x.shortest(5, 3, 2), 8);
        good("week", x.week(6, 3, 2));
        fraction(6, 1);
        good("night", x.night(7, 3, 2), 1);
        good("mostUsed", x.mostUsed(), 0);
        good("idle", x.idle(), 4094);
    }

    private static void nightsTaken() {
        about = "promise 11";
        fresh(SMALL);
        good("nights", nights("night x for p in s;any for w;strike ra;print ra;when sum p < less 3;end;when worn ra;stop;end;loop 99;end;"), 8);
        feed("stop;stop;");
        bad("nights", x.nights(-1), 5);
        bad("nights", x.nights(21), 5);
        good("nights of the first bytes", x.nights(5), 1);
        bad("tape is empty", x.nights(1), 5);
        good("live", x.live(0), 1);
        faultyNights("stop^", 2);
        bad("tape is empty", x.nights(1), 5);
        good("the old ones stay", x.live(0), 1);
        good("none", x.nights(0), 0);
        good("live", x.live(0), 0);
        good("300 bytes", nights(times(25, "stop;       ")), 25);
        feed(times(25, "stop;       ") + " ");
        bad("301 bytes", x.nights(301), 5);
        good("they are there still", x.nights(300), 25);
        good("30 steps", nights(times(30, "stop;")), 30);
        good("ends are no steps", nights(times(15, "loop 1;stop;end;")), 30);
        good("three deep", nights("loop 1;loop 1;loop 1;end;end;end;loop 1;end;"), 4);
    }

    private static void nightsFaults() {
        about = "promise 11";
        fresh(SMALL);
        faultyNights("stop;^S", 1);
        faultyNights("loop ^10000;", 1);
        faultyNights("^x;", 2);
        faultyNights("^thing a;", 2);
        faultyNights("^sum;", 2);
        faultyNights("^end;", 2);
        faultyNights("loop 2;end;^end;", 2);
        faultyNights("loop 2;^", 2);
        faultyNights("loop 2;stop^", 2);
        faultyNights("loop 2;end^", 2);
        faultyNights("loop 2^", 2);
        faultyNights("loop ^less 2;", 2);
        faultyNights("night ^for p;", 2);
        faultyNights("night x ^in s;", 2);
        faultyNights("night x for p in s ^in s;", 2);
        faultyNights("any ^x;", 2);
        faultyNights("stop ^x;", 2);
        faultyNights("when ^p;", 2);
        faultyNights("when sum p ^;", 2);
        faultyNights("when sum p ^3;", 2);
        faultyNights("when sum p < ^<", 2);
        faultyNights("when worn ra ^= 0;", 2);
        faultyNights("night ^abcdefghi for p;", 2);
        faultyNights("night ^ra for p;", 3);
        faultyNights("night x for ^a;", 3);
        faultyNights("night x for p in ^w;", 3);
        faultyNights("any for ^s;", 3);
        faultyNights("strike ^x;", 3);
        faultyNights("print ^nobody;", 3);
        faultyNights("when sum ^ra = 0;", 3);
        faultyNights("when worn ^p;", 3);
        faultyNights("loop ^0;", 4);
        faultyNights("loop ^100;", 4);
        faultyNights(times(30, "stop;") + "^stop", 6);
        faultyNights(times(14, "stop;") + times(13, "loop 1;end;") + "loop 1;loop 1;loop 1;^loop", 6);
        faultyNights("loop 1;when worn ra;loop 1;^loop 1;", 7);
        faultyNights("loop 1;when worn ra;loop 1;^when", 7);
        faultyNights("loop 1;loop 1;loop 1;end;loop 1;stop;^loop 1;", 7);
        good("a sum of 9,999", nights("when sum p = less 9999;end;"), 1);
    }

    private static void fault() {
        about = "promise 12";
        x = new DreamBook();
        due("fault", x.fault(0), NONE);
        due("place", x.fault(1), NONE);
        bad("book", x.book(7), 5);
        due("fault", x.fault(0), NONE);
        x.book(0);
        due("fault", x.fault(0), 0);
        due("place", x.fault(1), NONE);
        due("fault 2", x.fault(2), NONE);
        due("fault -1", x.fault(-1), NONE);
        faulty("thing a;^!", 1);
        bad("book", x.book(7), 5);
        x.many(0);
        due("fault stays", x.fault(0), 1);
        due("place stays", x.fault(1), 8);
        x.nights(0);
        due("fault", x.fault(0), 0);
        due("place", x.fault(1), NONE);
        faultyNights("^end;", 2);
        x.mark();
        x.back();
        due("fault stays", x.fault(0), 2);
    }

    private static void many() {
        about = "promise 13";
        fresh(SMALL + "note rd strikes rc;");
        int[] want = {3, 2, 2, 4, 1, 3, 6, 0, 11, 0};
        for (int what = 0; what < 10; what++) {
            good("many " + what, x.many(what), want[what]);
        }
        x.strike(0);
        x.strike(2);
        x.night(0, 0, NONE);
        x.night(1, 1, NONE);
        good("dreamt", x.many(7), 2);
        good("in force", x.many(8), 10);
        good("struck out", x.many(9), 5);
        bad("many", x.many(-1), 5);
        bad("many", x.many(10), 5);
    }

    private static void rule() {
        about = "promise 14";
        fresh(SMALL);
        good("thing", x.rule(1, 0), 1);
        good("means", x.rule(1, 1), -3);
        good("by", x.rule(1, 2), 0);
        bad("unless", x.rule(1, 3), 8);
        bad("person", x.rule(1, 4), 8);
        bad("season", x.rule(1, 5), 8);
        bad("by", x.rule(0, 2), 8);
        good("unless", x.rule(2, 3), 2);
        good("person", x.rule(2, 4), 0);
        good("season", x.rule(3, 5), 1);
        x.night(0, 0, NONE);
        x.night(0, 0, NONE);
        good("used", x.rule(1, 6), 2);
        good("worth", x.rule(1, 7), -1);
        good("means stays", x.rule(1, 1), -3);
        good("worth", x.rule(0, 7), 3);
        for (int i = 0; i < 5; i++) {
            x.night(0, 0, NONE);
        }
        good("worn", x.rule(1, 7), 0);
        good("worn", x.rule(0, 7), 0);
        good("used", x.rule(0, 6), 7);
        bad("rule", x.rule(4, 9), 2);
        bad("rule", x.rule(-1, 0), 2);
        bad("rule", x.rule(0, 8), 5);
        bad("rule", x.rule(0, -1), 5);
    }

    private static void personsAndSeasons() {
        about = "promise 15";
        fresh(SMALL);
        good("no widow", x.person(0, 0), 0);
        good("widow", x.person(1, 0), 1);
        x.night(0, 1, NONE);
        good("sum", x.person(1, 1), -2);
        good("sum", x.person(0, 1), 0);
        bad("person", x.person(2, 9), 2);
        bad("nobody", x.person(NONE, 0), 2);
        bad("person", x.person(0, 2), 5);
        bad("person", x.person(0, -1), 5);
        about = "promise 16";
        good("turns", x.turns(0), 0);
        good("turns", x.turns(1), 1);
        bad("turns", x.turns(2), 2);
        bad("turns", x.turns(NONE), 2);
    }

    private static void notesAndDreams() {
        about = "promise 17";
        fresh(SMALL + "note rd strikes rb;note ra strikes ra;");
        good("note", x.note(0, 0), 3);
        good("note", x.note(0, 1), 1);
        good("note", x.note(1, 1), 0);
        bad("note", x.note(2, 5), 2);
        bad("note", x.note(-1, 0), 2);
        bad("note", x.note(0, 2), 5);
        bad("note", x.note(0, -1), 5);
        about = "promise 18";
        int[][] want = {{2, 4, 2}, {1, 0, 1}, {2, 0, 3}};
        for (int d = 0; d < 3; d++) {
            for (int what = 0; what < 3; what++) {
                good("dream", x.dream(d, what), want[d][what]);
            }
        }
        bad("dream", x.dream(3, 7), 2);
        bad("dream", x.dream(NONE, 0), 2);
        bad("dream", x.dream(0, 3), 5);
        bad("dream", x.dream(0, -1), 5);
        about = "promise 19";
        good("dreamAt", x.dreamAt(2, 0), 1);
        good("dreamAt", x.dreamAt(2, 1), 2);
        bad("dreamAt", x.dreamAt(2, 2), 8);
        bad("dreamAt", x.dreamAt(2, -1), 8);
        bad("dreamAt", x.dreamAt(3, 9), 2);
    }

    private static void copyDream() {
        about = "promise 20";
        fresh(SMALL);
        x.tray(0, 0, 3);
        x.write(0, 2, 77);
        good("copyDream", x.copyDream(2, 0), 2);
        good("read", x.read(0, 0), 1);
        good("read", x.read(0, 1), 2);
        good("read", x.read(0, 2), 77);
        x.tray(1, 0, 1);
        bad("copyDream", x.copyDream(9, 4), 1);
        bad("copyDream", x.copyDream(9, 2), 3);
        bad("copyDream", x.copyDream(9, 1), 2);
        bad("copyDream", x.copyDream(0, 1), 4);
        good("nothing came", x.read(1, 0), 0);
        good("copyDream", x.copyDream(1, 1), 1);
    }

    private static void standing() {
        about = "promise 21";
        // 0 strikes 1 strikes 2 strikes 3: by turns; 4 strikes itself and 5; 6 strikes itself, 0 strikes it; 7 and 8 each other
        fresh("thing a;" + times(9, "rule r# of a means 1;")
            + "note rc strikes rd;note rb strikes rc;note ra strikes rb;note re strikes re;note re strikes rf;"
            + "note rg strikes rg;note ra strikes rg;note rh strikes ri;note ri strikes rh;");
        int[] want = {0, 1, 0, 1, 2, 2, 1, 2, 2};
        for (int r = 0; r < 9; r++) {
            good("standing " + r, x.standing(r), want[r]);
        }
        good("in force", x.many(8), 5);
        x.strike(0);
        good("one struck out goes on striking", x.standing(1), 1);
        good("in force", x.many(8), 4);
        bad("standing", x.standing(9), 2);
        bad("standing", x.standing(-1), 2);
    }

    private static void stables() {
        about = "promise 22";
        fresh("thing a;" + times(4, "rule r# of a means 1;") + "note ra strikes rb;note rb strikes ra;note rc strikes rd;note rd strikes rc;");
        good("stables", x.stables(), 4);
        about = "promise 23";
        int[] want = {5, 6, 9, 10};
        for (int k = 0; k < 4; k++) {
            good("stable", x.stable(k), want[k]);
        }
        bad("stable", x.stable(4), 8);
        bad("stable", x.stable(-1), 8);
        bad("stable", x.stable(MAX), 8);
        about = "promise 22";
        fresh("thing a;" + times(3, "rule r# of a means 1;") + "note ra strikes rb;note rb strikes rc;note rc strikes ra;");
        good("stables of a ring of three", x.stables(), 0);
        bad("stable", x.stable(0), 8);
        fresh("thing a;" + times(12, "rule r# of a means 1;"));
        good("stables", x.stables(), 1);
        good("stable", x.stable(0), 4095);
        fresh("thing a;rule r of a means 1;note r strikes r;");
        good("stables", x.stables(), 0);
    }

    private static void strikes() {
        about = "promise 24";
        fresh("thing a;" + times(4, "rule r# of a means 1;") + "note ra strikes rb;note ra strikes rd;note rc strikes rb;note rb strikes rb;");
        good("strikes", x.strikes(0, 0), 10);
        good("strikes", x.strikes(1, 0), 2);
        good("struck by", x.strikes(1, 1), 7);
        good("struck by", x.strikes(0, 1), 0);
        bad("strikes", x.strikes(4, 2), 2);
        bad("strikes", x.strikes(0, 2), 5);
        bad("strikes", x.strikes(0, -1), 5);
    }

    private static void strikeMendPrint() {
        about = "promise 25";
        fresh(SMALL);
        good("strike", x.strike(1));
        good("reading without it", x.reading(0, NONE, NONE), 5);
        bad("strike", x.strike(1), 9);
        bad("strike", x.strike(4), 2);
        bad("strike", x.strike(-1), 2);
        about = "promise 26";
        good("mend", x.mend(1));
        good("reading with it", x.reading(0, NONE, NONE), 2);
        bad("mend", x.mend(1), 9);
        bad("mend", x.mend(4), 2);
        about = "promise 27";
        good("print", x.print(1), 0);
        x.night(0, 0, NONE);
        x.night(0, 0, NONE);
        good("print", x.print(1), 2);
        good("used", x.rule(1, 6), 0);
        good("worth", x.rule(1, 7), -3);
        good("another stays used", x.rule(0, 6), 2);
        bad("print", x.print(4), 2);
    }

    private static void readings() {
        about = "promise 28";
        fresh(SMALL);
        // by persons (nobody, p, w) and seasons (none, s, t)
        int[][][] want = {
            {{2, 2, -2}, {2, 2, -2}, {-2, -2, 2}},
            {{0, 0, 0}, {2, 2, -2}, {0, 0, 0}},
            {{0, 0, -4}, {0, 0, -4}, {0, 0, 4}},
        };
        for (int d = 0; d < 3; d++) {
            for (int p = -1; p < 2; p++) {
                for (int s = -1; s < 2; s++) {
                    good("reading " + d + " " + p + " " + s, x.reading(d, p, s), want[d][p + 1][s + 1]);
                }
            }
        }
        bad("reading", x.reading(3, NONE, NONE), 2);
        bad("reading", x.reading(NONE, NONE, NONE), 2);
        bad("reading", x.reading(0, 2, NONE), 2);
        bad("reading", x.reading(0, -2, NONE), 2);
        bad("reading", x.reading(0, NONE, 2), 2);
        bad("reading", x.reading(0, NONE, -2), 2);
        fresh("thing a;thing b;rule ra of a means 7 by a;rule rb of a means 1;rule rc of b means 9 unless b;rule rd of b means 4;"
            + "dream d a;dream e a a;dream f a b a;dream g b a;dream h b b;");
        int[] alone = {1, 14, 6, 5, 8};
        for (int d = 0; d < 5; d++) {
            good("reading " + d, x.reading(d, NONE, NONE), alone[d]);
        }
    }

    private static void readRow() {
        about = "promise 29";
        fresh(SMALL);
        x.tray(0, 3, 9);
        x.tray(1, 0, 2);
        good("a a", x.readRow(0, 2, NONE, NONE), 10);
        x.write(0, 1, 1);
        x.write(0, 3, 1);
        good("a b a b a a a a", x.readRow(0, 8, NONE, NONE), 24);
        good("for a widow", x.readRow(0, 8, 1, NONE), -24);
        good("one", x.readRow(0, 1, NONE, 1), -5);
        bad("readRow", x.readRow(4, 9, 9, 9), 1);
        bad("readRow", x.readRow(2, 9, 9, 9), 3);
        bad("readRow", x.readRow(1, 9, 9, 9), 4);
        bad("readRow", x.readRow(1, 3, NONE, NONE), 4);
        bad("readRow", x.readRow(1, MAX, NONE, NONE), 4);
        bad("readRow", x.readRow(0, 9, 9, 9), 5);
        bad("readRow", x.readRow(0, 0, 9, 9), 5);
        bad("readRow", x.readRow(0, -1, 9, 9), 5);
        bad("readRow", x.readRow(0, 1, 2, NONE), 2);
        bad("readRow", x.readRow(0, 1, NONE, 2), 2);
        x.write(0, 2, 3);
        bad("no thing", x.readRow(0, 3, NONE, NONE), 2);
        x.write(0, 2, -1);
        bad("no thing", x.readRow(0, 3, NONE, NONE), 2);
        x.write(0, 2, 1L << 32);
        bad("no thing", x.readRow(0, 3, NONE, NONE), 2);
        good("the others", x.readRow(0, 2, NONE, NONE), 2);
    }

    private static void ruleAtValueAt() {
        fresh(SMALL);
        about = "promise 30";
        good("ruleAt", x.ruleAt(0, 0, NONE, NONE), 0);
        good("ruleAt", x.ruleAt(0, 1, NONE, NONE), 1);
        good("ruleAt", x.ruleAt(1, 0, 0, NONE), 2);
        good("ruleAt", x.ruleAt(2, 1, NONE, 1), 3);
        bad("none counts", x.ruleAt(1, 0, NONE, NONE), 8);
        bad("no such place", x.ruleAt(1, 1, 0, NONE), 8);
        bad("no such place", x.ruleAt(1, -1, 0, NONE), 8);
        bad("ruleAt", x.ruleAt(3, 9, 0, NONE), 2);
        bad("ruleAt", x.ruleAt(1, 9, 2, NONE), 2);
        bad("ruleAt", x.ruleAt(1, 9, 0, 2), 2);
        about = "promise 31";
        good("valueAt", x.valueAt(0, 0, NONE, NONE), 5);
        good("valueAt", x.valueAt(0, 1, NONE, NONE), -3);
        good("valueAt", x.valueAt(0, 1, 1, NONE), 3);
        good("valueAt", x.valueAt(0, 1, 1, 1), -3);
        good("none counts", x.valueAt(1, 0, NONE, NONE), 0);
        bad("no such place", x.valueAt(1, 1, 0, NONE), 8);
        bad("no such place", x.valueAt(1, -1, 0, NONE), 8);
        bad("valueAt", x.valueAt(3, 9, 0, NONE), 2);
        bad("valueAt", x.valueAt(0, 9, 0, -2), 2);
        for (int i = 0; i < 6; i++) {
            x.night(0, 0, NONE);
        }
        good("worn", x.valueAt(0, 0, NONE, NONE), 0);
        about = "promise 30";
        good("a worn one counts", x.ruleAt(0, 0, NONE, NONE), 0);
    }

    private static void night() {
        about = "promise 32";
        fresh(SMALL);
        good("night", x.night(0, 0, NONE), 2);
        good("night", x.night(0, 0, 1), 2 - (4 - 2));
        good("night", x.night(0, 1, NONE), -(3 - 1));
        good("used", x.rule(0, 6), 3);
        good("dreamt", x.many(7), 3);
        bad("nobody", x.night(0, NONE, NONE), 2);
        bad("night", x.night(3, 0, NONE), 2);
        bad("night", x.night(0, 2, NONE), 2);
        bad("night", x.night(0, 0, 2), 2);
        fresh("thing a;person p;person w widow;rule r of a means 99;dream six a a a a a a;dream five a a a a a;dream one a;");
        for (int i = 1; i <= 16; i++) {
            good("night", x.night(0, 0, NONE), 594 * i);
            good("used six times", x.print(0), 6);
        }
        bad("beyond", x.night(0, 0, NONE), 7);
        good("nothing became", x.rule(0, 6), 0);
        good("nothing became", x.many(7), 16);
        good("9,999 itself", x.night(1, 0, NONE), 9999);
        bad("beyond", x.night(2, 0, NONE), 7);
        x.print(0);
        for (int i = 1; i <= 16; i++) {
            good("night", x.night(0, 1, NONE), -594 * i);
            x.print(0);
        }
        bad("beyond", x.night(0, 1, NONE), 7);
        good("-9,999 itself", x.night(1, 1, NONE), -9999);
    }

    private static void countingIdleMostUsed() {
        fresh(SMALL + "rule re of a means 9;");
        about = "promise 33";
        good("counting", x.counting(0, NONE, NONE), 3);
        good("counting", x.counting(1, NONE, NONE), 0);
        good("counting", x.counting(1, 0, NONE), 4);
        good("counting", x.counting(2, 1, 1), 8);
        bad("counting", x.counting(3, NONE, NONE), 2);
        bad("counting", x.counting(0, 2, NONE), 2);
        bad("counting", x.counting(0, NONE, 2), 2);
        about = "promise 34";
        good("idle", x.idle(), 16);
        x.strike(0);
        good("idle", x.idle(), 1);
        x.mend(0);
        about = "promise 35";
        bad("mostUsed", x.mostUsed(), 8);
        x.night(0, 0, NONE);
        good("of several the first", x.mostUsed(), 0);
        x.night(1, 0, NONE);
        x.night(1, 0, NONE);
        good("mostUsed", x.mostUsed(), 2);
        x.print(2);
        x.print(0);
        good("mostUsed", x.mostUsed(), 1);
        fresh("thing a;rule r of a means 1;");
        about = "promise 34";
        good("without dreams all are idle", x.idle(), 1);
        fresh("thing a;person p;season s;rule r of a means 1 for p in s;rule q of a means 1 for p;rule o of a means 1 in s;rule n of a means 1;rule m of a means 1;dream d a;");
        good("for nobody, in none", x.idle(), 16);
    }

    private static final String QUARRELS = "thing a;thing b;thing c;person p;person q;season s;season t;"
        + "rule ra of a means 3 by b;rule rb of a means less 2 by c;rule rc of a means less 1;rule rd of a means 4 unless b;"
        + "rule re of a means less 5 by b;rule rf of b means 7;rule rg of a means 0;rule rh of a means 6 for p;"
        + "rule ri of a means less 6 for q;rule rj of a means 6 in s;rule rk of a means less 6 in t;rule rl of a means 1 unless a;"
        + "dream d b a;";

    private static void quarrel() {
        about = "promise 36";
        fresh(QUARRELS);
        int[] against = {0x516, 0, 0, 0x506, 0, 0, 0, 0x416, 0, 0x116, 0, 0};
        for (int a = 0; a < 12; a++) {
            for (int b = 0; b < 12; b++) {
                if (a != b) {
                    int want = against[a] >> b & 1 | against[b] >> a & 1;
                    good("quarrel " + a + " " + b, x.quarrel(a, b), want);
                }
            }
        }
        bad("quarrel", x.quarrel(12, 12), 2);
        bad("quarrel", x.quarrel(-1, 0), 2);
        bad("quarrel", x.quarrel(0, 12), 2);
        bad("quarrel", x.quarrel(3, 3), 5);
        about = "promise 37";
        good("quarrels", x.quarrels(), 17);
        x.strike(0);
        good("in force or not", x.quarrels(), 17);
        x.mend(0);
        for (int i = 0; i < 9; i++) {
            x.night(0, 0, NONE);
        }
        good("by what is told", x.quarrel(0, 2), 1);
        about = "promise 36";
        fresh("thing a;thing b;rule ra of a means 1 by b;rule rb of a means less 1 unless b;rule rc of a means less 1 by a;rule rd of a means 2 by b unless b;");
        good("the other one's by", x.quarrel(0, 1), 0);
        good("by the thing itself", x.quarrel(0, 2), 1);
        good("its own by", x.quarrel(3, 2), 0);
    }

    private static void shownFoundAt() {
        about = "promise 38";
        fresh(QUARRELS);
        good("shown", x.shown(0, 1), 3);
        row("shown 0 1", 1, 0, 2);
        good("shown", x.shown(1, 0), 3);
        row("shown 1 0", 2, 0, 1);
        good("shown", x.shown(0, 2), 2);
        row("shown 0 2", 1, 0);
        good("shown", x.shown(2, 0), 2);
        row("shown 2 0", 0, 1);
        good("shown", x.shown(0, 4), 2);
        row("shown 0 4", 1, 0);
        good("shown", x.shown(3, 2), 1);
        row("shown 3 2", 0);
        bad("shown", x.shown(12, 12), 2);
        bad("shown", x.shown(0, 0), 5);
        bad("shown", x.shown(3, 4), 8);
        about = "promise 39";
        row("still the latest", 0);
        bad("foundAt", x.foundAt(-1), 8);
        x.book(0);
        row("it stays", 0);
    }

    private static void fewest() {
        about = "promise 40";
        fresh(QUARRELS);
        good("fewest", x.fewest(), 4);
        about = "promise 41";
        good("fewestSet", x.fewestSet(), 649);
        fresh("thing a;rule ra of a means less 1;rule rb of a means 1;");
        good("fewest", x.fewest(), 1);
        good("the least as a number", x.fewestSet(), 1);
        fresh("thing a;rule ra of a means less 1;rule rb of a means less 1;rule rc of a means 1;");
        good("the fewest", x.fewestSet(), 4);
        fresh("thing a;rule ra of a means less 1;rule rb of a means 0;");
        good("fewest", x.fewest(), 0);
        good("fewestSet", x.fewestSet(), 0);
    }

    private static void shortestRows() {
        about = "promise 42";
        fresh(SMALL);
        good("shortest", x.shortest(5, NONE, NONE), 1);
        row("5", 0);
        good("shortest", x.shortest(0, NONE, NONE), 1);
        row("0", 1);
        good("shortest", x.shortest(2, NONE, NONE), 2);
        row("2", 0, 1);
        good("shortest", x.shortest(7, NONE, NONE), 3);
        row("7", 0, 0, 1);
        good("shortest", x.shortest(20, NONE, NONE), 4);
        row("20", 0, 0, 0, 0);
        good("shortest for a widow", x.shortest(-5, 1, NONE), 1);
        good("shortest", x.shortest(-4, NONE, 1), 1);
        row("-4", 2);
        bad("shortest", x.shortest(25, NONE, NONE), 8);
        row("still the latest", 2);
        bad("shortest", x.shortest(1000, 2, NONE), 2);
        bad("shortest", x.shortest(1000, NONE, 2), 2);
        bad("shortest", x.shortest(1000, NONE, NONE), 5);
        bad("shortest", x.shortest(-1000, NONE, NONE), 5);
        bad("shortest", x.shortest(999, NONE, NONE), 8);
        about = "promise 43";
        good("rows", x.rows(1, 0, NONE, NONE), 2);
        good("rows", x.rows(2, 5, NONE, NONE), 2);
        good("rows", x.rows(2, 2, NONE, NONE), 2);
        good("rows", x.rows(2, 10, NONE, NONE), 1);
        good("rows", x.rows(2, 0, NONE, NONE), 4);
        good("rows", x.rows(4, -20, 1, NONE), 1);
        good("rows", x.rows(4, -999, 1, NONE), 0);
        bad("rows", x.rows(0, 0, 2, NONE), 2);
        bad("rows", x.rows(0, 0, NONE, 2), 2);
        bad("rows", x.rows(0, 0, NONE, NONE), 5);
        bad("rows", x.rows(5, 0, NONE, NONE), 5);
        bad("rows", x.rows(1, 1000, NONE, NONE), 5);
        bad("rows", x.rows(1, -1000, NONE, NONE), 5);
        fresh(times(10, "thing #;"));
        good("rows of ten", x.rows(4, 0, NONE, NONE), 10000);
    }

    private static void lucky() {
        about = "promise 44";
        fresh(SMALL);
        bad("lucky", x.lucky(), 8);
        String four = "thing a;thing b;person w widow;season t turns;rule ra of b means 1# for w in t;rule rb of b means less 1# for w;"
            + "rule rc of b means less 2# in t;rule rd of b means 3#;";
        fresh(four.replace("#", ""));
        good("lucky", x.lucky(), 1);
        row("lucky", 1);
        fresh(four.replace("#", " by a"));
        good("lucky", x.lucky(), 2);
        row("lucky", 0, 1);
        x.strike(2);
        bad("lucky", x.lucky(), 8);
        row("still the latest", 0, 1);
        fresh("thing a;thing b;rule ra of a means less 1;rule rb of b means 1 by a;");
        good("three things", x.lucky(), 3);
        row("b a b", 1, 0, 1);
        fresh("thing a;thing b;rule ra of a means less 2;rule rb of b means 1 by a;");
        bad("never above 0", x.lucky(), 8);
    }

    private static void stock() {
        about = "promise 45";
        fresh("thing a;person p;person w widow;season t turns;rule r of a means 3;dream x a costs 5;dream y a costs 4;dream z a a costs 1;");
        bad("stockSet", x.stockSet(), 8);
        int[][] want = {{7, 5, 6}, {5, 9, 3}, {3, 4, 2}, {6, 1, 4}, {0, 0, 0}};
        for (int[] w : want) {
            good("stock " + w[0], x.stock(w[0], NONE, NONE), w[1]);
            good("stockSet " + w[0], x.stockSet(), w[2]);
            good("stock " + w[0], x.stock(-w[0], 1, NONE), w[1]);
            good("stock " + w[0], x.stock(w[0], 1, 0), w[1]);
        }
        good("all stays", x.rule(0, 6), 0);
        good("all stays", x.person(1, 1), 0);
        good("all stays", x.many(7), 0);
        bad("stock", x.stock(4, NONE, NONE), 8);
        bad("stock", x.stock(1000, 2, NONE), 2);
        bad("stock", x.stock(1000, NONE, 1), 2);
        bad("stock", x.stock(1000, NONE, NONE), 5);
        bad("stock", x.stock(-1000, NONE, NONE), 5);
        about = "promise 46";
        good("the latest", x.stockSet(), 0);
        x.night(1, 0, NONE);
        good("by what is worn", x.stock(4, NONE, NONE), 1);
        good("stockSet", x.stockSet(), 4);
        fresh("thing a;rule r of a means 1;dream x a costs 2;dream y a costs 2;");
        good("of several", x.stock(1, NONE, NONE), 2);
        good("the least as a number", x.stockSet(), 1);
        x.book(0);
        good("it stays", x.stockSet(), 1);
    }

    private static void whoseWhen() {
        about = "promise 47";
        fresh(SMALL);
        good("whose", x.whose(0, NONE, 2), 1);
        good("whose", x.whose(0, NONE, -2), 2);
        good("whose", x.whose(0, 1, 2), 2);
        good("whose", x.whose(2, 0, 0), 3);
        good("whose", x.whose(2, 0, MAX), 0);
        fresh("thing a;dream d a;");
        good("of none", x.whose(0, NONE, 0), 0);
        good("of none", x.when(0, NONE, 0), 0);
        fresh(SMALL);
        bad("whose", x.whose(3, NONE, 0), 2);
        bad("whose", x.whose(0, 2, 0), 2);
        about = "promise 48";
        good("when", x.when(0, NONE, 2), 1);
        good("when", x.when(0, 1, 2), 2);
        good("when", x.when(1, NONE, 0), 3);
        good("when", x.when(1, NONE, MIN), 0);
        bad("when", x.when(3, NONE, 0), 2);
        bad("when", x.when(0, 2, 0), 2);
    }

    private static void twinBargain() {
        about = "promise 49";
        fresh(SMALL + "dream u c b;dream v b a;dream o b;");
        good("twin", x.twin(0), 4);
        good("twin", x.twin(4), 0);
        good("twin", x.twin(2), 3);
        good("twin", x.twin(1), 5);
        bad("twin", x.twin(6), 2);
        bad("twin", x.twin(NONE), 2);
        fresh(SMALL);
        bad("for nobody alone y is like z", x.twin(1), 8);
        fresh("thing a;thing b;person p;rule r of a means 2 for p;rule q of b means 2 for p;rule o of b means 1;dream x a;dream y b;");
        bad("for p alone x is like y", x.twin(0), 8);
        fresh(SMALL);
        about = "promise 50";
        good("bargain", x.bargain(NONE, NONE), 0);
        good("bargain", x.bargain(0, NONE), 1);
        good("bargain", x.bargain(NONE, 1), 1);
        good("of several the first", x.bargain(1, NONE), 1);
        bad("bargain", x.bargain(2, NONE), 2);
        bad("bargain", x.bargain(NONE, 2), 2);
        fresh("thing a;thing b;rule r of a means 2;dream y b;dream x a costs 99;dream z a costs 98;dream u a costs 98;");
        good("not rounded", x.bargain(NONE, NONE), 2);
        fresh("thing a;person w widow;rule r of a means 2;dream y a;dream x a costs 99;");
        good("below 0, dearer is better", x.bargain(0, NONE), 1);
        x.book(0);
        bad("bargain", x.bargain(NONE, NONE), 8);
        bad("bargain", x.bargain(0, NONE), 2);
    }

    private static void week() {
        about = "promise 51";
        fresh(SMALL);
        good("week", x.week(1, NONE, NONE));
        fraction(2, 3);
        good("week", x.week(6, NONE, NONE));
        fraction(4, 1);
        good("week", x.week(2, 1, NONE));
        fraction(-4, 3);
        good("week", x.week(3, NONE, 1));
        fraction(-8, 1);
        bad("week", x.week(0, 2, NONE), 2);
        bad("week", x.week(0, NONE, 2), 2);
        bad("week", x.week(0, NONE, NONE), 5);
        bad("week", x.week(7, NONE, NONE), 5);
        fraction(-8, 1);
        good("without wearing out", x.rule(0, 6), 0);
        x.strike(0);
        x.strike(1);
        good("week", x.week(5, NONE, NONE));
        fraction(0, 1);
        x.book(0);
        bad("week", x.week(7, NONE, NONE), 5);
        bad("week", x.week(1, NONE, NONE), 8);
    }

    private static void atLeast() {
        about = "promise 52";
        fresh(SMALL);
        good("atLeast", x.atLeast(1, 2, NONE, NONE));
        fraction(1, 3);
        good("atLeast", x.atLeast(2, 3, NONE, NONE));
        fraction(1, 9);
        good("atLeast", x.atLeast(2, 1, NONE, NONE));
        fraction(5, 9);
        good("atLeast", x.atLeast(3, -999, NONE, NONE));
        fraction(1, 1);
        good("atLeast", x.atLeast(3, 999, NONE, NONE));
        fraction(0, 1);
        good("atLeast", x.atLeast(2, -3, 1, NONE));
        fraction(8, 9);
        bad("atLeast", x.atLeast(0, 1000, 2, NONE), 2);
        bad("atLeast", x.atLeast(0, 1, NONE, -2), 2);
        bad("atLeast", x.atLeast(0, 1, NONE, NONE), 5);
        bad("atLeast", x.atLeast(7, 1, NONE, NONE), 5);
        bad("atLeast", x.atLeast(1, 1000, NONE, NONE), 5);
        bad("atLeast", x.atLeast(1, -1000, NONE, NONE), 5);
        fraction(8, 9);
        fresh("thing a;thing b;rule r of a means 99;rule q of b means less 99;dream x a a a a a a chance 99;"
            + times(6, "dream d# b chance 99;") + "dream y b b b b b b chance 99;");
        good("the widest", x.atLeast(6, 999, NONE, NONE));
        // four or more of x, or three and no y: 15 * 49 + 6 * 7 + 1 + 20 * 216 ways of 8^6
        fraction(5098 / 2, 262144 / 2);
        good("the widest", x.atLeast(6, -999, NONE, NONE));
        // all but: no x and a y; one x and three y or more; two x and four y: 70993 + 6 * 391 + 15 ways
        fraction((262144 - 73354) / 2, 262144 / 2);
        x.book(0);
        bad("atLeast", x.atLeast(1, 1000, NONE, NONE), 5);
        bad("atLeast", x.atLeast(1, 0, NONE, NONE), 8);
    }

    private static void lived(int missed, int dreamt, int above, int counted, int left) {
        int[] want = {missed, dreamt, above, counted, left};
        for (int what = 0; what < 5; what++) {
            good("lived " + what, x.lived(what), want[what]);
        }
    }

    private static void liveSteps() {
        about = "promise 53";
        fresh(SMALL);
        bad("live", x.live(-1), 5);
        bad("live", x.live(10000), 5);
        bad("live", x.live(0), 8);
        about = "promise 54";
        bad("lived", x.lived(5), 5);
        bad("lived", x.lived(-1), 5);
        bad("lived", x.lived(0), 8);
        about = "promise 53";
        nights("night x for p;night y for w in t;strike rb;strike rb;print ra;print ra;when sum p = 2;night x for p in t;end;when sum p > less 3;stop;end;stop;");
        // x: 2; y for w: 0; without rb, ra being printed, x in t by ra and rc: -7; the sum, -5, is not above -3
        good("live", x.live(7), 10);
        lived(2, 3, 1, 4, 0);
        good("sum", x.person(0, 1), -5);
        good("dreamt", x.many(7), 3);
        good("out", x.many(9), 2);
        good("used", x.rule(0, 6), 1);
        // x: 4 and 1; the sum, 0, is not 2, but above -3
        good("live again from there", x.live(7), 9);
        good("sum", x.person(0, 1), 0);
        lived(3, 2, 1, 2, 0);
        about = "promise 54";
        x.night(0, 0, NONE);
        bad("live", x.live(-1), 5);
        x.book(0);
        lived(3, 2, 1, 2, 0);
        about = "promise 53";
        fresh(SMALL);
        nights("loop 2;when worn rb;stop;end;loop 3;night x for p;end;end;night z for p in t;");
        // loop, when, loop, three nights, when (rb is worn), stop
        good("live", x.live(0), 8);
        lived(0, 3, 3, 6, 0);
        good("sum", x.person(0, 1), 2 + (4 - 2) + (3 - 1));
        fresh("person p;");
        nights("any for p;stop;any for p;");
        good("no dreams", x.live(0), 2);
        lived(1, 0, 0, 0, 0);
        fresh("thing a;person p;rule r of a means 99;dream d a a a a a a;");
        nights("loop 17;night d for p;print r;end;");
        good("beyond 9,999", x.live(0), 35);
        lived(2, 16, 16, 96, 0);
        good("sum", x.person(0, 1), 9504);
        for (String test : new String[] {"< 9505", "> 9503", "= 9504"}) {
            nights("when sum p " + test + ";stop;end;stop;stop;");
            good("when " + test, x.live(0), 2);
        }
        for (String test : new String[] {"< 9504", "> 9504", "= less 9504"}) {
            nights("when sum p " + test + ";stop;end;loop 1;end;stop;stop;");
            good("when " + test, x.live(0), 3);
        }
    }

    private static void liveDraws() {
        about = "promise 53";
        fresh("thing a;person p;season s turns;rule r of a means 1;dream d a;");
        nights("any for p in s;night d for p in s;print r;stop;");
        nights("any for p;print r;night d for p;loop 1;end;");
        good("one dream, no season", x.live(0), 4);
        lived(0, 2, 2, 2, 0);
        good("sum", x.person(0, 1), 2);
        fresh(SMALL);
        nights("any for p;any for p in t;any for w;");
        // s: 10613, 35742, 2251; by 8, by 6 chances: 0, 3, 5: the dreams x, z, z
        good("live", x.live(0), 3);
        lived(0, 3, 1, 3, 0);
        good("sum", x.person(0, 1), 2 - 4);
        good("sum", x.person(1, 1), 0);
        good("used", x.rule(3, 6), 1);
        // 9999 times 2917 and 10613 is 29177696, of which 14176 are left; by 8: 1772; by 6: 2, which is y
        fresh(SMALL);
        nights("any for p;");
        good("live", x.live(9999), 1);
        good("sum", x.person(0, 1), 2);
        // 19364, 2420, 2
        good("live", x.live(3), 1);
        good("sum", x.person(0, 1), 2 + 1);
        good("used", x.rule(2, 6), 2);
    }

    private static void liveLimit() {
        about = "promise 53";
        fresh(SMALL);
        String most = "loop 99;print ra;print ra;print ra;end;";
        String[] behind = {"", "print ra;print ra;", "print ra;print ra;print ra;", "print ra;stop;print ra;", "print ra;print ra;stop;",
            "print ra;loop 5;end;", "print ra;loop 5;print ra;end;", "print ra;when worn ra;print ra;end;", "print ra;when sum p = 0;print ra;end;"};
        int[] steps = {298, 300, 300, 300, 300, 300, 300, 300, 300};
        int[] missed = {297, 299, 299, 298, 299, 298, 298, 298, 298};
        int[] left = {0, 0, 1, 0, 1, 0, 1, 0, 1};
        for (int i = 0; i < behind.length; i++) {
            nights(most + behind[i]);
            good("live " + behind[i], x.live(1), steps[i]);
            lived(missed[i], 0, 0, 0, left[i]);
        }
        nights("loop 99;loop 99;loop 99;end;end;end;");
        good("loops of nothing", x.live(1), 300);
        lived(0, 0, 0, 0, 1);
    }

    private static void mean() {
        about = "promise 55";
        fresh(SMALL);
        bad("mean", x.mean(0, 0, 1), 8);
        nights("any for p;any for w;");
        // the first draw by seeds 0, 1, 2 is 0, 5, 3: x, z, z
        good("mean", x.mean(0, 0, 3));
        fraction(2, 3);
        good("all stays", x.person(0, 1), 0);
        good("all stays", x.rule(0, 6), 0);
        good("all stays", x.many(7), 0);
        bad("all stays", x.lived(0), 8);
        x.night(0, 0, 1);
        good("mean", x.mean(0, 1, 2));
        fraction(-2, 1);
        good("mean", x.mean(0, 9980, 20));
        bad("nobody", x.mean(NONE, -1, 0), 2);
        bad("mean", x.mean(2, 0, 1), 2);
        bad("mean", x.mean(0, -1, 1), 5);
        bad("mean", x.mean(0, 0, 0), 5);
        bad("mean", x.mean(0, 0, 21), 5);
        bad("mean", x.mean(0, 9981, 20), 5);
        bad("mean", x.mean(0, MAX, 20), 5);
        good("mean", x.mean(0, 9999, 1));
        good("nights", x.nights(0), 0);
        good("mean", x.mean(0, 0, 20));
        fraction(-2, 1);
    }

    private static void marks() {
        about = "promise 56";
        fresh(SMALL);
        nights("stop;");
        x.night(0, 0, NONE);
        x.strike(3);
        good("mark", x.mark(), 1);
        x.night(0, 0, NONE);
        x.mend(3);
        nights("stop;stop;loop 1;end;");
        good("mark", x.mark(), 2);
        x.tray(0, 0, 5);
        x.week(1, NONE, NONE);
        x.shortest(1, NONE, NONE);
        feed("thing z;rule r of z means 1;person q;dream d z;");
        x.book(47);
        x.night(0, 0, NONE);
        good("mark", x.mark(), 3);
        bad("mark", x.mark(), 7);
        x.strike(0);
        feed("thi");
        about = "promise 57";
        good("back", x.back(), 2);
        good("not out", x.many(9), 0);
        good("dreamt", x.many(7), 1);
        due("the tape stays", x.feed(0, 0, 0, 0, 0), 40);
        x.book(0);
        good("back", x.back(), 1);
        good("rules", x.many(3), 4);
        good("sum", x.person(0, 1), 4);
        good("none out", x.many(9), 0);
        good("nights", x.live(0), 1);
        fraction(2, 3);
        good("a tray stays", x.read(0, 0), 0);
        good("names too", nights("night x for p;strike rd;"), 2);
        good("back", x.back(), 0);
        good("sum", x.person(0, 1), 2);
        good("used", x.rule(0, 6), 1);
        good("out", x.many(9), 8);
        good("nights", x.live(0), 1);
        bad("back", x.back(), 8);
        good("sum", x.person(0, 1), 2);
        about = "promise 56";
        good("mark", x.mark(), 1);
    }
}
