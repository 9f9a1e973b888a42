/**
 * The boundaries of what is no text: each sentence of the document that names one, at it and one step beyond it.
 * What is refused at a boundary stands in DreamBookRefusals, what a text may hold in DreamBookTexts.
 */
public final class DreamBookBounds extends Checks {
    private static final String TWELVE = "thing a;" + times(12, "rule r# of a means 1;");

    public static void main(String[] args) {
        calls();
        sorts();
        lengthsOfTrays();
        pours();
        tape();
        takenInPlace();
        standingInTwelveRounds();
        openRules();
        stables();
        inForce();
        worth();
        next();
        unless();
        forWhomAndWhen();
        theOtherWay();
        nights();
        sums();
        sumsInSteps();
        readRow();
        counting();
        mostUsed();
        quarrels();
        whatIsNoQuarrel();
        shown();
        fewest();
        shortest();
        rows();
        lucky();
        stock();
        stockAsNights();
        whoseAndWhen();
        twins();
        bargains();
        weeks();
        odds();
        compares();
        worn();
        loops();
        threeHundredSteps();
        stops();
        draws();
        seeds();
        missed();
        means();
        marks();
        whatStays();
        finish("the boundaries stand where the document has them");
    }

    // -------- objects

    private static void calls() {
        about = "used for at most 512 calls";
        x = new DreamBook();
        String text = "thing a;person p;rule r of a means 0;dream d a a a a a a;";
        String steps = "loop 99;night d for p;night d for p;night d for p;end;stop;";
        int used = 0;
        feed(text);
        x.book(text.length());
        feed(steps);
        x.nights(steps.length());
        used += (text.length() + 19) / 20 + (steps.length() + 19) / 20 + 2;
        int lives = 0;
        for (; used < 509; used++) {
            due("live", x.live(lives), 299);
            lives++;
        }
        due("the 510th call", x.rule(0, 6), lives * 297L * 6);
        due("the 511th call", x.many(7), lives * 297L);
        due("the 512th call", x.status(), 0);
    }

    // -------- TRAYS

    private static void sorts() {
        about = "numbers of 8 bits (sort 0), 16 (1), 32 (2) or 64 (3), with sign";
        x = new DreamBook();
        for (int sort = 0; sort < 4; sort++) {
            good("tray", x.tray(sort, sort, 60));
            long most = Long.MAX_VALUE >> 64 - (8 << sort);
            long[] written = {0, 1, -1, most, most + 1, -most - 1, -most - 2, 2 * most + 1, 2 * most + 2, 2 * most + 3};
            long[] kept = {0, 1, -1, most, -most - 1, -most - 1, most, -1, 0, 1};
            for (int i = 0; i < written.length; i++) {
                good("write " + written[i], x.write(sort, i * 6, written[i]));
            }
            for (int i = 0; i < written.length; i++) {
                good("sort " + sort + " of " + written[i], x.read(sort, i * 6), kept[i]);
                good("beside it", x.read(sort, i * 6 + 1), 0);
            }
        }
        good("127", x.write(0, 59, 127));
        good("127", x.read(0, 59), 127);
        good("128", x.write(0, 59, 128));
        good("128", x.read(0, 59), -128);
        good("32,768", x.write(1, 59, 32768));
        good("32,768", x.read(1, 59), -32768);
        good("2 by 31 times", x.write(2, 59, 1L << 31));
        good("2 by 31 times", x.read(2, 59), MIN);
    }

    private static void lengthsOfTrays() {
        about = "a row of so many numbers (at most 60), all 0";
        x = new DreamBook();
        for (int t = 0; t < 4; t++) {
            for (int many : new int[] {0, 1, 2, 59, 60}) {
                good("tray " + t + " of " + many, x.tray(t, t, many));
                for (int k = 0; k < many; k += Math.max(1, many - 1)) {
                    good("it was 0", x.read(t, k), 0);
                    good("write", x.write(t, k, -1));
                    good("read", x.read(t, k), -1);
                }
                bad("behind the last", x.read(t, many), 4);
                bad("behind the last", x.write(t, many, 1), 4);
                bad("ahead of the first", x.read(t, -1), 4);
            }
        }
        bad("60 stay", x.tray(0, 0, 61), 5);
        good("the last", x.read(0, 59), -1);
        good("anew", x.tray(0, 1, 60));
        good("all 0", x.read(0, 59), 0);
        good("none", x.tray(0, 1, 0));
        bad("one of none, which is not missing", x.read(0, 0), 4);
    }

    private static void pours() {
        about = "promise 8";
        x = new DreamBook();
        x.tray(0, 3, 60);
        x.tray(1, 3, 60);
        x.tray(2, 3, 1);
        x.tray(3, 3, 0);
        for (int k = 0; k < 60; k++) {
            x.write(0, k, k + 1);
        }
        good("all 60", x.pour(0, 0, 1, 0, 60));
        good("the first", x.read(1, 0), 1);
        good("the last", x.read(1, 59), 60);
        bad("61", x.pour(0, 0, 1, 0, 61), 4);
        good("the last one alone", x.pour(0, 59, 2, 0, 1));
        good("read", x.read(2, 0), 60);
        good("to the last place", x.pour(0, 0, 1, 59, 1));
        good("read", x.read(1, 59), 1);
        good("beside it", x.read(1, 58), 59);
        bad("one too far", x.pour(0, 59, 1, 0, 2), 4);
        bad("one too far", x.pour(0, 0, 1, 59, 2), 4);
        bad("to none", x.pour(0, 0, 3, 0, 1), 4);
        good("nothing to none", x.pour(0, 0, 3, 0, 0));
        good("as they were, on", x.pour(0, 0, 0, 1, 59));
        for (int k = 0; k < 60; k++) {
            good("place " + k, x.read(0, k), k == 0 ? 1 : k);
        }
        good("as they were, back", x.pour(0, 1, 0, 0, 59));
        for (int k = 0; k < 60; k++) {
            good("place " + k, x.read(0, k), k == 59 ? 59 : k + 1);
        }
        good("all to itself", x.pour(0, 0, 0, 0, 60));
        good("the last", x.read(0, 59), 59);
    }

    // -------- texts

    private static void tape() {
        about = "NONE if there would be more than 900";
        x = new DreamBook();
        for (int i = 1; i <= 45; i++) {
            due("feed", x.feed(0x20202020, 0x20202020, 0x20202020, 0x20202020, 0x20202020), 20 * i);
        }
        for (int i = 0; i < 3; i++) {
            due("feed", x.feed(0x41414141, 0, 0, 0, 0), NONE);
        }
        good("it is as it was", x.book(900), 0);
        about = "the highest byte of each int first";
        int[] bytes = {0x7468696e, 0x67206162, 0x63646566, 0x67680a20, 0x3b202020};
        due("feed", x.feed(bytes[0], bytes[1], bytes[2], bytes[3], bytes[4]), 20);
        good("thing abcdefgh", x.book(17), 0);
        for (int i = 0; i < 20; i++) {
            int[] v = {0x20202020, 0x20202020, 0x20202020, 0x20202020, 0x20202020};
            v[i / 4] ^= 0xa0 << 24 - i % 4 * 8;
            x.feed(v[0], v[1], v[2], v[3], v[4]);
            bad("byte 128 at " + i, x.book(20), 10);
            fault("byte 128", 1, i);
        }
    }

    private static void takenInPlace() {
        about = "A BOOK that is taken is there in place of that ahead";
        fresh("thing a;thing b;person p;person q widow;season s turns;rule r of a means 9;rule n of b means 3;note n strikes n;dream d a b costs 9 chance 9;");
        x.night(0, 1, 0);
        x.strike(1);
        nights("any for p;stop;");
        good("book", book("thing a;thing b;person p;person q;season s;rule r of a means 9;rule n of b means 3;dream d a b;"), 2);
        for (int r = 0; r < 2; r++) {
            good("never used", x.rule(r, 6), 0);
            good("it stands", x.standing(r), 0);
        }
        good("in force", x.many(8), 3);
        good("struck out", x.many(9), 0);
        good("dreamt", x.many(7), 0);
        for (int p = 0; p < 2; p++) {
            good("sum", x.person(p, 1), 0);
            good("no widow", x.person(p, 0), 0);
        }
        good("it does not turn", x.turns(0), 0);
        good("chances", x.many(6), 1);
        bad("no nights", x.live(0), 8);
        bad("no nights", x.mean(0, 0, 1), 8);
        nights("stop;");
        x.night(0, 0, 0);
        bad("a faulty one", book("thing a"), 10);
        good("the old one stays", x.many(7), 1);
        good("its nights, too", x.live(0), 1);
        notesTakenInPlace();
    }

    private static void notesTakenInPlace() {
        String two = "thing a;rule r of a means 9;rule n of a means 3;";
        fresh(two + "note r strikes n;");
        good("fallen", x.standing(1), 1);
        good("book", book(two + "note n strikes r;note n strikes n;"), 2);
        good("struck by an open one", x.standing(0), 2);
        good("open", x.standing(1), 2);
        good("strikes none", x.strikes(0, 0), 0);
        good("strikes both", x.strikes(1, 0), 3);
        good("struck by the other", x.strikes(0, 1), 2);
        good("book", book(two), 2);
        for (int r = 0; r < 2; r++) {
            good("it stands", x.standing(r), 0);
            good("strikes none", x.strikes(r, 0), 0);
            good("struck by none", x.strikes(r, 1), 0);
        }
    }

    // -------- which RULES stand

    private static void standingInTwelveRounds() {
        about = "and so on";
        StringBuilder down = new StringBuilder(TWELVE);
        StringBuilder up = new StringBuilder(TWELVE);
        for (char c = 'a'; c < 'l'; c++) {
            down.append("note r").append((char) (c + 1)).append(" strikes r").append(c).append(';');
            up.append("note r").append(c).append(" strikes r").append((char) (c + 1)).append(';');
        }
        fresh(down.toString());
        for (int r = 0; r < 12; r++) {
            good("by turns from the last one on, " + r, x.standing(r), (11 - r) % 2);
        }
        good("in force", x.many(8), 0xaaa);
        good("stables", x.stables(), 1);
        good("stable", x.stable(0), 0xaaa);
        fresh(up.toString());
        for (int r = 0; r < 12; r++) {
            good("by turns from the first one on, " + r, x.standing(r), r % 2);
        }
        good("in force", x.many(8), 0x555);
        good("strikes", x.strikes(10, 0), 2048);
        good("struck by", x.strikes(11, 1), 1024);
        good("strikes none", x.strikes(11, 0), 0);
        fresh(down + "note ra strikes rl;");
        for (int r = 0; r < 12; r++) {
            good("a ring is open, " + r, x.standing(r), 2);
        }
        good("none in force", x.many(8), 0);
        good("stables of a ring of twelve", x.stables(), 2);
    }

    private static void openRules() {
        about = "one that strikes itself, too, unless it has FALLEN otherwise";
        String two = "thing a;rule q of a means 1;rule r of a means 1;";
        fresh(two + "note q strikes q;");
        good("open", x.standing(0), 2);
        good("another stands", x.standing(1), 0);
        fresh(two + "note q strikes q;note r strikes q;");
        good("fallen", x.standing(0), 1);
        good("it stands", x.standing(1), 0);
        fresh(two + "note q strikes q;note q strikes r;");
        good("open", x.standing(0), 2);
        good("struck by an open one", x.standing(1), 2);
        good("none in force", x.many(8), 0);
        fresh(two + "note q strikes r;note r strikes q;");
        good("open", x.standing(0), 2);
        good("open", x.standing(1), 2);
        fresh(two + "rule o of a means 1;rule n of a means 1;note q strikes r;note o strikes r;note n strikes o;");
        good("one of whose strikers stands", x.standing(1), 1);
        fresh(two + "rule o of a means 1;rule n of a means 1;note q strikes r;note o strikes r;note n strikes o;note n strikes q;");
        good("all of whose strikers have fallen", x.standing(1), 0);
    }

    private static void stables() {
        about = "promise 22";
        StringBuilder couples = new StringBuilder(TWELVE);
        for (char c = 'a'; c < 'm'; c += 2) {
            couples.append("note r").append(c).append(" strikes r").append((char) (c + 1)).append(';');
            couples.append("note r").append((char) (c + 1)).append(" strikes r").append(c).append(';');
        }
        fresh(couples.toString());
        good("six couples", x.stables(), 64);
        about = "promise 23";
        good("the first", x.stable(0), 0x555);
        good("the second", x.stable(1), 0x556);
        good("the last", x.stable(63), 0xaaa);
        bad("behind the last", x.stable(64), 8);
        for (int k = 1; k < 64; k++) {
            good("by numbers", x.stable(k) > x.stable(k - 1));
        }
        fresh(TWELVE);
        good("all twelve", x.stable(0), 4095);
        bad("behind the last", x.stable(1), 8);
        fresh("");
        good("of no rules", x.stables(), 1);
        good("the empty one", x.stable(0), 0);
        bad("behind the last", x.stable(1), 8);
        fresh(TWELVE + times(12, "note r# strikes r#;"));
        good("all strike themselves", x.stables(), 0);
        bad("the first", x.stable(0), 8);
    }

    private static void inForce() {
        about = "In FORCE are those that STAND and are not STRUCK OUT by hand";
        fresh(TWELVE + "note rl strikes ra;dream d a;");
        good("in force", x.many(8), 4094);
        good("the first in force counts", x.ruleAt(0, 0, NONE, NONE), 1);
        good("strike", x.strike(11));
        good("it goes on striking", x.many(8), 2046);
        good("strike", x.strike(0));
        good("fallen already", x.many(8), 2046);
        good("struck out", x.many(9), 2049);
        good("it stands", x.standing(11), 0);
        good("fallen", x.standing(0), 1);
        for (int r = 1; r < 11; r++) {
            good("the first in force", x.ruleAt(0, 0, NONE, NONE), r);
            good("strike", x.strike(r));
        }
        bad("none in force", x.ruleAt(0, 0, NONE, NONE), 8);
        good("none in force", x.many(8), 0);
        good("all struck out", x.many(9), 4095);
        good("mend", x.mend(11));
        good("the last one counts", x.ruleAt(0, 0, NONE, NONE), 11);
        bad("mend again", x.mend(11), 9);
        bad("strike again", x.strike(10), 9);
    }

    // -------- READINGS

    private static void worth() {
        about = "nearer to 0 by 1 for each time it was USED, at the last 0";
        fresh("thing a;thing b;thing c;person p;rule r of a means 3;rule n of b means less 3;rule o of c means 0;dream d a b c;");
        int[] worth = {3, 2, 1, 0, 0, 0};
        for (int used = 0; used < worth.length; used++) {
            good("used", x.rule(0, 6), used);
            good("above 0", x.rule(0, 7), worth[used]);
            good("below 0", x.rule(1, 7), -worth[used]);
            good("0", x.rule(2, 7), 0);
            good("value", x.valueAt(0, 0, NONE, NONE), worth[used]);
            good("value", x.valueAt(0, 1, NONE, NONE), -worth[used]);
            good("a worn one counts", x.ruleAt(0, 1, NONE, NONE), 1);
            good("means as told", x.rule(1, 1), -3);
            good("night", x.night(0, 0, NONE), 0);
        }
        good("print", x.print(0), 6);
        good("as told again", x.rule(0, 7), 3);
        good("another stays", x.rule(1, 7), 0);
    }

    private static void next() {
        about = "its BY stands next to it (ahead or behind)";
        fresh("thing a;thing b;thing c;rule r of a means 1 by b;");
        x.tray(0, 0, 8);
        for (int one = 0; one < 8; one++) {
            for (int other = 0; other < 8; other++) {
                if (one != other) {
                    for (int k = 0; k < 8; k++) {
                        x.write(0, k, k == one ? 0 : k == other ? 1 : 2);
                    }
                    good("a at " + one + ", b at " + other, x.readRow(0, 8, NONE, NONE), Math.abs(one - other) == 1 ? 1 : 0);
                }
            }
            if (one == 3) {
                fresh("thing a;thing b;thing c;rule r of a means 1 by b;");
                x.tray(0, 0, 8);
            }
        }
        fresh("thing a;thing b;rule r of a means 1 by a;dream d a;dream e a a;dream f a b a;dream g b a a;");
        int[] twice = {0, 2, 0, 2};
        for (int d = 0; d < 4; d++) {
            good("by the same, " + d, x.reading(d, NONE, NONE), twice[d]);
        }
        x.tray(0, 0, 2);
        x.write(0, 1, 0);
        good("what stands behind the row is not in it", x.readRow(0, 1, NONE, NONE), 0);
    }

    private static void unless() {
        about = "its UNLESS stands nowhere in the row";
        fresh("thing a;thing b;thing c;rule r of a means 1 unless b;");
        x.tray(0, 0, 9);
        for (int one = 0; one < 8; one++) {
            for (int other = 0; other < 9; other++) {
                if (one != other && (one % 7 == 0 || other % 7 == 0 || other == 8)) {
                    for (int k = 0; k < 9; k++) {
                        x.write(0, k, k == one ? 0 : k == other ? 1 : 2);
                    }
                    good("a at " + one + ", b at " + other, x.readRow(0, 8, NONE, NONE), other == 8 ? 1 : 0);
                }
            }
        }
        fresh("thing a;thing b;rule r of a means 1 unless a;rule n of a means 2 unless b;rule o of a means 3 by b unless b;rule m of a means 4;"
            + "dream d a;dream e a b;");
        good("its own thing", x.reading(0, NONE, NONE), 2);
        good("the first that fits", x.reading(1, NONE, NONE), 4);
    }

    private static void forWhomAndWhen() {
        about = "its PERSON, its SEASON are those of the READING (if it names any)";
        fresh("thing a;" + times(4, "person p#;") + times(3, "season s#;") + "rule ra of a means 1 for pd in sc;rule rb of a means 2 for pd;"
            + "rule rc of a means 3 in sc;rule rd of a means 4;dream d a;");
        for (int p = -1; p < 4; p++) {
            for (int s = -1; s < 3; s++) {
                int want = p == 3 ? s == 2 ? 1 : 2 : s == 2 ? 3 : 4;
                good("for " + p + " in " + s, x.reading(0, p, s), want);
                good("for " + p + " in " + s, x.counting(0, p, s), 1 << want - 1);
            }
        }
        good("whose", x.whose(0, 2, 1), 8);
        good("whose", x.whose(0, 2, 3), 7);
        good("when", x.when(0, 3, 1), 4);
        good("when", x.when(0, 3, 2), 3);
        good("none is idle", x.idle(), 0);
        bad("one person too many", x.reading(0, 4, 2), 2);
        bad("one season too many", x.reading(0, 3, 3), 2);
    }

    private static void theOtherWay() {
        about = "for a WIDOW in such a one as told";
        fresh("thing a;thing b;person p;person w widow;season s;season t turns;rule ra of a means 5;rule rb of b means less 2;dream d a b b;");
        for (int p = -1; p < 2; p++) {
            for (int s = -1; s < 2; s++) {
                int way = (p == 1) == (s == 1) ? 1 : -1;
                good("for " + p + " in " + s, x.reading(0, p, s), way);
                good("for " + p + " in " + s, x.valueAt(0, 0, p, s), 5 * way);
                good("for " + p + " in " + s, x.valueAt(0, 1, p, s), -2 * way);
                good("row", x.rows(1, 5 * way, p, s), 1);
                good("row", x.rows(1, -2 * way, p, s), 1);
                good("shortest", x.shortest(3 * way, p, s), 2);
                good("stock", x.stock(way, p, s), 0);
            }
        }
    }

    private static void nights() {
        about = "all of the READING is by the WORTH ahead of it";
        fresh("thing a;thing b;person p;rule ra of a means 9;rule rb of b means 4;dream d a a b a;dream e b b b b b b;");
        good("night", x.night(0, 0, NONE), 31);
        good("once more for each thing", x.rule(0, 6), 3);
        good("once", x.rule(1, 6), 1);
        good("night", x.night(0, 0, NONE), 31 + 18 + 3);
        good("used", x.rule(0, 6), 6);
        good("reading", x.reading(1, 0, NONE), 12);
        good("night", x.night(1, 0, NONE), 52 + 12);
        good("worn", x.reading(1, 0, NONE), 0);
        good("used", x.rule(1, 6), 8);
        good("dreamt", x.many(7), 3);
    }

    private static final String FAR = "thing a;thing b;person p;person w widow;rule r of a means 99;rule q of b means 1;"
        + "dream six a a a a a a;dream five a a a a a;dream one b;dream none b;";

    private static void sums() {
        about = "beyond 9,999 or -9,999";
        for (int p = 0; p < 2; p++) {
            int way = p == 0 ? 1 : -1;
            fresh(FAR);
            for (int i = 0; i < 16; i++) {
                x.night(0, p, NONE);
                x.print(0);
            }
            good("up to 9,503", x.night(2, p, NONE), way * 9505);
            x.print(1);
            bad("10,000", x.night(1, p, NONE), 7);
            good("nothing was used", x.rule(0, 6), 0);
            good("sum", x.person(p, 1), way * 9505);
            good("dreamt", x.many(7), 17);
            fresh(FAR);
            for (int i = 0; i < 16; i++) {
                x.night(0, p, NONE);
                x.print(0);
            }
            good("9,999", x.night(1, p, NONE), way * 9999);
            bad("10,000", x.night(2, p, NONE), 7);
            x.strike(1);
            good("9,999 and 0", x.night(2, p, NONE), way * 9999);
            good("another's sum", x.night(0, 1 - p, NONE), -way * (99 - 5) * 6);
        }
    }

    private static void sumsInSteps() {
        about = "MISSED: its SUM would be beyond 9,999 or -9,999";
        for (int p = 0; p < 2; p++) {
            String who = p == 0 ? "p" : "w";
            int way = p == 0 ? 1 : -1;
            fresh(FAR);
            nights("loop 16;night six for " + who + ";print r;end;night one for " + who + ";night five for " + who + ";");
            good("live", x.live(0), 35);
            good("10,000", x.person(p, 1), way * 9505);
            good("missed", x.lived(0), 1);
            good("nights", x.lived(1), 17);
            good("read above 0", x.lived(2), p == 0 ? 17 : 0);
            good("counted", x.lived(3), 97);
            good("not used", x.rule(0, 6), 0);
            fresh(FAR);
            nights("loop 16;night six for " + who + ";print r;end;night five for " + who + ";night one for " + who + ";");
            good("live", x.live(0), 35);
            good("9,999", x.person(p, 1), way * 9999);
            good("missed", x.lived(0), 1);
            good("not used", x.rule(1, 6), 0);
            nights("when sum " + who + " = " + (p == 0 ? "" : "less ") + "9999;stop;end;stop;stop;");
            good("the sum is 9,999", x.live(0), 2);
            nights("when sum " + who + (p == 0 ? " < " : " > less ") + "9999;stop;end;stop;");
            good("the sum is 9,999", x.live(0), 2);
        }
    }

    private static void readRow() {
        about = "promise 29";
        fresh(times(10, "thing #;") + "rule r of a means 1;rule q of j means 10;");
        x.tray(0, 3, 60);
        x.tray(1, 0, 8);
        x.tray(2, 0, 1);
        x.write(0, 7, 9);
        x.write(1, 7, 9);
        good("one", x.readRow(0, 1, NONE, NONE), 1);
        good("seven", x.readRow(0, 7, NONE, NONE), 7);
        good("eight", x.readRow(0, 8, NONE, NONE), 17);
        bad("nine", x.readRow(0, 9, NONE, NONE), 5);
        bad("none", x.readRow(0, 0, NONE, NONE), 5);
        good("all of eight", x.readRow(1, 8, NONE, NONE), 17);
        bad("nine of eight", x.readRow(1, 9, NONE, NONE), 4);
        good("one of one", x.readRow(2, 1, NONE, NONE), 1);
        bad("two of one", x.readRow(2, 2, NONE, NONE), 4);
        x.write(0, 8, -1);
        good("the first eight alone", x.readRow(0, 8, NONE, NONE), 17);
        x.write(0, 7, 10);
        bad("no eleventh thing", x.readRow(0, 8, NONE, NONE), 2);
        good("the first seven", x.readRow(0, 7, NONE, NONE), 7);
    }

    private static void counting() {
        about = "promise 33";
        fresh(times(6, "thing #;") + times(6, "rule r# of # means 1;") + times(6, "rule s# of # means 2;") + "dream u a b c d e f;dream v f;");
        good("of six things", x.counting(0, NONE, NONE), 63);
        good("of one", x.counting(1, NONE, NONE), 32);
        about = "promise 34";
        good("idle", x.idle(), 63 << 6);
        for (int r = 0; r < 6; r++) {
            x.strike(r);
        }
        good("idle", x.idle(), 63);
        about = "promise 33";
        good("of six things", x.counting(0, NONE, NONE), 63 << 6);
        about = "promise 34";
        fresh(TWELVE);
        good("no dreams", x.idle(), 4095);
        fresh("thing a;person p;person w widow;season s;season t turns;rule ra of a means 1 for w in t;rule rb of a means 1 for w in s;"
            + "rule rc of a means 1 for p in t;rule rd of a means 1 in t;rule re of a means 1 for p;rule rf of a means 1;rule rg of a means 1;dream d a;");
        good("for some of them each", x.idle(), 64);
    }

    private static void mostUsed() {
        about = "promise 35";
        fresh("thing a;thing b;person p;rule r of a means 1;rule q of b means 1;dream d a;dream e b;");
        bad("none was", x.mostUsed(), 8);
        x.night(1, 0, NONE);
        good("once", x.mostUsed(), 1);
        x.night(0, 0, NONE);
        good("as often, the first", x.mostUsed(), 0);
        x.night(1, 0, NONE);
        good("once more", x.mostUsed(), 1);
        x.strike(1);
        good("in force or not", x.mostUsed(), 1);
        x.print(1);
        good("the other", x.mostUsed(), 0);
        x.print(0);
        bad("none is any more", x.mostUsed(), 8);
    }

    // -------- QUARRELS

    private static void quarrels() {
        about = "promise 37";
        StringBuilder turns = new StringBuilder("thing a;");
        StringBuilder halves = new StringBuilder("thing a;");
        for (int r = 0; r < 12; r++) {
            char c = (char) ('a' + r);
            turns.append("rule r").append(c).append(" of a means ").append(r % 2 == 0 ? "1;" : "less 1;");
            halves.append("rule r").append(c).append(" of a means ").append(r < 6 ? "1;" : "less 1;");
        }
        fresh("");
        good("of no rules", x.quarrels(), 0);
        fresh(TWELVE);
        good("all alike", x.quarrels(), 0);
        about = "promise 41";
        good("of none", x.fewestSet(), 0);
        fresh(turns.toString());
        about = "promise 37";
        good("six against six", x.quarrels(), 36);
        about = "promise 40";
        good("fewest", x.fewest(), 6);
        good("the least as a number", x.fewestSet(), 0x555);
        about = "promise 36";
        good("the first and the last", x.quarrel(0, 11), 1);
        good("the last and the first", x.quarrel(11, 0), 1);
        good("alike", x.quarrel(11, 9), 0);
        fresh(halves.toString());
        about = "promise 37";
        good("six against six", x.quarrels(), 36);
        about = "promise 41";
        good("the least as a number", x.fewestSet(), 63);
    }

    private static void whatIsNoQuarrel() {
        about = "one MEANING above 0, the other below";
        String[] means = {"less 99", "less 1", "0", "less 0", "1", "99"};
        int[] signs = {-1, -1, 0, 0, 1, 1};
        for (int i = 0; i < means.length; i++) {
            for (int j = 0; j < means.length; j++) {
                fresh("thing a;rule r of a means " + means[i] + ";rule q of a means " + means[j] + ";");
                good(means[i] + " and " + means[j], x.quarrel(0, 1), signs[i] * signs[j] < 0 ? 1 : 0);
            }
        }
        String[][] rules = {
            {"of a means 1", "of b means less 1", "0"},
            {"of a means 1 for p", "of a means less 1 for p", "1"},
            {"of a means 1 for p", "of a means less 1 for q", "0"},
            {"of a means 1 for p", "of a means less 1", "1"},
            {"of a means 1", "of a means less 1 for q", "1"},
            {"of a means 1 in s", "of a means less 1 in s", "1"},
            {"of a means 1 in s", "of a means less 1 in t", "0"},
            {"of a means 1 in s", "of a means less 1", "1"},
            {"of a means 1 for p in s", "of a means less 1 for p in t", "0"},
            {"of a means 1 for p", "of a means less 1 in t", "1"},
            {"of a means 1 unless a", "of a means less 1", "0"},
            {"of a means 1 unless b", "of a means less 1", "1"},
            {"of a means 1 by b unless b", "of a means less 1", "0"},
            {"of a means 1 unless b", "of a means less 1 by b", "0"},
            {"of a means 1 unless b", "of a means less 1 by c", "1"},
            {"of a means 1 unless b", "of a means less 1 unless b", "1"},
            {"of a means 1 by b", "of a means less 1 by c", "1"},
            {"of a means 1 by b unless c", "of a means less 1 by c unless b", "0"},
            {"of a means 1 by a", "of a means less 1 by b", "1"},
            {"of a means 1 by a", "of a means less 1 by b unless a", "0"},
        };
        about = "promise 36";
        for (String[] v : rules) {
            fresh("thing a;thing b;thing c;person p;person q;season s;season t;rule r " + v[0] + ";rule o " + v[1] + ";");
            good(v[0] + " and " + v[1], x.quarrel(0, 1), v[2].charAt(0) - '0');
            good(v[1] + " and " + v[0], x.quarrel(1, 0), v[2].charAt(0) - '0');
            good("quarrels", x.quarrels(), v[2].charAt(0) - '0');
            good("fewest", x.fewest(), v[2].charAt(0) - '0');
            good("fewestSet", x.fewestSet(), v[2].charAt(0) - '0');
        }
    }

    private static void shown() {
        about = "with the first one's BY ahead, the second one's BY behind it";
        fresh("thing a;thing b;thing c;rule ra of b means 1 by a;rule rb of b means less 1 by c;rule rc of b means less 1 by a;rule rd of b means less 1;"
            + "rule re of b means 2;rule rf of b means less 1 by b;");
        good("two", x.shown(0, 1), 3);
        row("0 1", 0, 1, 2);
        good("the other way", x.shown(1, 0), 3);
        row("1 0", 2, 1, 0);
        good("both the same", x.shown(0, 2), 2);
        row("0 2", 0, 1);
        good("both the same", x.shown(2, 0), 2);
        row("2 0", 0, 1);
        good("one ahead", x.shown(0, 3), 2);
        row("0 3", 0, 1);
        good("one behind", x.shown(3, 0), 2);
        row("3 0", 1, 0);
        good("none", x.shown(3, 4), 1);
        row("3 4", 1);
        good("the thing itself", x.shown(0, 5), 3);
        row("0 5", 0, 1, 1);
        bad("ahead of the first", x.foundAt(-1), 8);
        bad("no quarrel", x.shown(1, 3), 8);
        row("still", 0, 1, 1);
    }

    private static void fewest() {
        about = "promise 41";
        fresh("thing a;" + times(11, "rule r# of a means 1;") + "rule s of a means less 1;");
        good("one against eleven", x.fewestSet(), 2048);
        fresh("thing a;rule s of a means less 1;" + times(11, "rule r# of a means 1;"));
        good("one against eleven", x.fewestSet(), 1);
        fresh("thing a;thing b;rule ra of b means 1;rule rb of a means 1;rule rc of a means less 1;rule rd of b means less 1;");
        good("two couples", x.fewestSet(), 3);
        about = "promise 40";
        good("two couples", x.fewest(), 2);
        x.strike(0);
        x.strike(1);
        good("in force or not", x.fewest(), 2);
        fresh("");
        good("of no rules", x.fewest(), 0);
        good("of no rules", x.fewestSet(), 0);
    }

    // -------- looked for

    private static void shortest() {
        about = "rows of at most 4 THINGS";
        fresh(times(10, "thing #;") + "rule r of j means 99;rule q of i means less 99;");
        good("one", x.shortest(99, NONE, NONE), 1);
        row("99", 9);
        good("two", x.shortest(198, NONE, NONE), 2);
        row("198", 9, 9);
        good("three", x.shortest(-297, NONE, NONE), 3);
        row("-297", 8, 8, 8);
        good("four", x.shortest(396, NONE, NONE), 4);
        row("396", 9, 9, 9, 9);
        good("four", x.shortest(-396, NONE, NONE), 4);
        row("-396", 8, 8, 8, 8);
        bad("five", x.shortest(495, NONE, NONE), 8);
        bad("five", x.shortest(-495, NONE, NONE), 8);
        row("as ahead", 8, 8, 8, 8);
        good("0", x.shortest(0, NONE, NONE), 1);
        row("the first by numbers", 0);
        bad("999", x.shortest(999, NONE, NONE), 8);
        bad("-999", x.shortest(-999, NONE, NONE), 8);
        bad("1,000", x.shortest(1000, NONE, NONE), 5);
        bad("-1,000", x.shortest(-1000, NONE, NONE), 5);
        about = "of several the first by THINGS' numbers";
        fresh("thing a;thing b;thing c;rule r of b means 2;rule q of c means 2;rule o of a means 1 by c;");
        good("2", x.shortest(2, NONE, NONE), 1);
        row("2", 1);
        good("3", x.shortest(3, NONE, NONE), 2);
        row("3", 0, 2);
        good("4", x.shortest(4, NONE, NONE), 2);
        row("4", 1, 1);
        good("5", x.shortest(5, NONE, NONE), 3);
        row("5", 0, 2, 1);
    }

    private static void rows() {
        about = "promise 43";
        fresh(times(10, "thing #;") + "rule r of a means 1;");
        int all = 1;
        for (int n = 1; n <= 4; n++) {
            all *= 10;
            int with = 0;
            for (int v = 0; v <= n; v++) {
                int rows = x.rows(n, v, NONE, NONE);
                due("status", x.status(), 0);
                with += rows;
            }
            good("all rows of " + n + " things", x.rows(n, n + 1, NONE, NONE), 0);
            due("all rows of " + n + " things", with, all);
            good("rows of no a", x.rows(n, 0, NONE, NONE), (int) Math.round(Math.pow(9, n)));
            good("rows of a alone", x.rows(n, n, NONE, NONE), 1);
        }
        bad("rows of none", x.rows(0, 0, NONE, NONE), 5);
        bad("rows of five", x.rows(5, 0, NONE, NONE), 5);
        good("999", x.rows(4, 999, NONE, NONE), 0);
        good("-999", x.rows(4, -999, NONE, NONE), 0);
        bad("1,000", x.rows(4, 1000, NONE, NONE), 5);
        bad("-1,000", x.rows(4, -1000, NONE, NONE), 5);
        fresh("thing a;");
        good("of one thing", x.rows(4, 0, NONE, NONE), 1);
    }

    private static void lucky() {
        about = "above 0 (at most 3 THINGS)";
        fresh("thing a;rule r of a means 0;");
        bad("0", x.lucky(), 8);
        fresh("thing a;rule r of a means 1;");
        good("1", x.lucky(), 1);
        row("1", 0);
        fresh("thing a;thing b;rule r of a means less 1;rule q of b means 1 by a;");
        good("three", x.lucky(), 3);
        row("three", 1, 0, 1);
        String four = "thing a;thing b;thing d;rule r of a means less 2;rule q of b means 1 by a;rule o of b means less 9;rule n of d means 1 by b;";
        fresh(four);
        good("four things would do", x.rows(4, 1, NONE, NONE) > 0);
        bad("three won't", x.lucky(), 8);
        about = "for nobody and each PERSON, in none and each SEASON";
        String those = "thing a;thing b;" + times(4, "person p#;") + times(3, "season s#;") + "rule q of b means 1;rule r of a means ";
        fresh(those.replace("rule q", "rule o of a means less 1 for pd in sc;rule q") + "1;");
        good("not by a", x.lucky(), 1);
        row("not by a", 1);
        fresh(those.replace("rule q", "rule o of a means 0 for pd;rule q") + "1;");
        good("not by a", x.lucky(), 1);
        row("not by a", 1);
        fresh(those.replace("rule q", "rule o of a means 0 in sc;rule q") + "1;");
        good("not by a", x.lucky(), 1);
        row("not by a", 1);
        fresh(those + "0;rule n of a means 1 for pa;");
        good("not by a", x.lucky(), 1);
        row("for nobody", 1);
        fresh(those + "1;");
        good("by a", x.lucky(), 1);
        row("the first", 0);
        x.strike(1);
        good("not by a any more", x.lucky(), 1);
        row("not by a", 1);
        x.strike(0);
        bad("by none", x.lucky(), 8);
        fresh("thing a;person p;person w widow;season s;season t turns;rule r of a means 1;");
        bad("not for a widow", x.lucky(), 8);
        good("book", book("thing a;person p;season s;rule r of a means 1;"), 1);
        good("there is no widow any more", x.lucky(), 1);
    }

    private static void stock() {
        about = "promise 45";
        int[] means = {1, 2, 4, 8, 16, 32, 64, 99};
        StringBuilder text = new StringBuilder("thing z;person w widow;");
        for (int d = 0; d < 8; d++) {
            char c = (char) ('a' + d);
            text.append("thing ").append(c).append(";rule r").append(c).append(" of ").append(c).append(" means ").append(means[d]).append(';')
                .append("dream d").append(c).append(' ').append(c).append(" costs 99;");
        }
        fresh(text.toString());
        good("all eight", x.stock(226, NONE, NONE), 792);
        good("all eight", x.stockSet(), 255);
        good("all but the first", x.stock(225, NONE, NONE), 693);
        good("all but the first", x.stockSet(), 254);
        good("two, not three", x.stock(99, NONE, NONE), 99);
        good("the last alone", x.stockSet(), 128);
        good("for a widow", x.stock(-226, 0, NONE), 792);
        bad("one too many", x.stock(227, NONE, NONE), 8);
        good("as ahead", x.stockSet(), 255);
        good("none", x.stock(0, NONE, NONE), 0);
        good("none", x.stockSet(), 0);
        fresh("thing a;thing b;person p;person w widow;rule r of a means 99;rule q of b means 81;dream d a a a a a a;dream e b b b b b;dream f b;");
        for (int p = 0; p < 2; p++) {
            int way = p == 0 ? 1 : -1;
            good("999", x.stock(way * 999, p, NONE), 0);
            good("999", x.stockSet(), 3);
            bad("1,000", x.stock(way * 1000, p, NONE), 5);
        }
        about = "of several the least as a number";
        fresh("thing a;rule r of a means 0;dream d a costs 1;dream e a costs 0;");
        good("the empty set", x.stock(0, NONE, NONE), 0);
        good("the empty set", x.stockSet(), 0);
        fresh("thing a;thing b;rule r of a means 3;rule q of b means 3;dream d b costs 2;dream e a costs 1;dream f b costs 1;dream g a b costs 1;");
        good("at the least costs", x.stock(3, NONE, NONE), 1);
        good("the least as a number", x.stockSet(), 2);
        good("6", x.stock(6, NONE, NONE), 1);
        good("6", x.stockSet(), 8);
    }

    private static void stockAsNights() {
        about = "in the order of their numbers, each a NIGHT (as if: all stays)";
        fresh("thing a;person p;rule r of a means 3;dream d a a costs 1;dream e a costs 1;dream f a costs 1;");
        good("3 and 3, then 1, then 0", x.stock(7, NONE, NONE), 2);
        good("the first two", x.stockSet(), 3);
        bad("not 9", x.stock(9, NONE, NONE), 8);
        good("3, then 2", x.stock(5, 0, NONE), 2);
        good("the last two", x.stockSet(), 6);
        good("all stays", x.rule(0, 6), 0);
        good("all stays", x.person(0, 1), 0);
        good("all stays", x.many(7), 0);
        x.night(1, 0, NONE);
        good("by what is worn already", x.stock(4, NONE, NONE), 1);
        good("the first", x.stockSet(), 1);
        good("that stays", x.rule(0, 6), 1);
        x.mark();
        x.night(1, 0, NONE);
        good("by what is worn", x.stock(2, NONE, NONE), 1);
        x.back();
        good("that found latest", x.stockSet(), 1);
        about = "in the order of their numbers";
        String rules = "thing a;thing b;person p;person w widow;rule r of a means 1;rule q of b means 10;";
        for (int p = 0; p < 2; p++) {
            int way = p == 0 ? 1 : -1;
            fresh(rules + "dream d a a costs 1;dream e a b costs 1;");
            good("2, then 10", x.stock(way * 12, p, NONE), 2);
            good("both", x.stockSet(), 3);
            good("11 alone", x.stock(way * 11, p, NONE), 1);
            good("the second", x.stockSet(), 2);
            fresh(rules + "dream d a b costs 1;dream e a a costs 1;");
            good("11, then 0: 11 alone is less", x.stock(way * 11, p, NONE), 1);
            good("the first", x.stockSet(), 1);
            bad("not 12", x.stock(way * 12, p, NONE), 8);
        }
    }

    private static void whoseAndWhen() {
        about = "promise 47";
        fresh("thing a;" + times(4, "person p#;") + times(3, "season s#;") + "rule r of a means 7 for pd;rule q of a means 2 in sc;dream d a;");
        good("the last one", x.whose(0, NONE, 7), 8);
        good("the others", x.whose(0, NONE, 0), 7);
        good("the others", x.whose(0, 2, 2), 7);
        good("none", x.whose(0, NONE, MAX), 0);
        good("none", x.whose(0, NONE, MIN), 0);
        good("beyond 999, too", x.whose(0, NONE, 1000), 0);
        about = "promise 48";
        good("the last one", x.when(0, NONE, 2), 4);
        good("the others", x.when(0, NONE, 0), 3);
        good("all", x.when(0, 3, 7), 7);
        good("none", x.when(0, 3, MIN), 0);
        good("none", x.when(0, 3, MAX), 0);
    }

    private static void twins() {
        about = "promise 49";
        fresh("thing a;thing b;" + times(6, "dream d# a;") + "dream y b;dream z b;rule r of b means 1;");
        good("the first other one", x.twin(0), 1);
        good("the first", x.twin(5), 0);
        good("of the last two", x.twin(6), 7);
        good("of the last two", x.twin(7), 6);
        about = "for nobody and each PERSON, in none and each SEASON";
        String two = "thing a;thing b;" + times(4, "person p#;") + times(3, "season s#;") + "dream d a;dream e b;";
        String[] rules = {"", "rule r of a means 1 for pd in sc;", "rule r of a means 1 for pa;", "rule r of a means 1 in sa;", "rule r of a means 1;",
            "rule r of a means 1;rule q of b means 1;", "rule r of a means 1;rule q of b means 2 for pd in sc;rule o of b means 1;"};
        boolean[] alike = {true, false, false, false, false, true, false};
        for (int i = 0; i < rules.length; i++) {
            fresh(two + rules[i]);
            if (alike[i]) {
                good(rules[i], x.twin(0), 1);
                good(rules[i], x.twin(1), 0);
            } else {
                bad(rules[i], x.twin(0), 8);
                bad(rules[i], x.twin(1), 8);
            }
        }
        fresh("thing a;person p;rule q of a means 1;rule o of a means 1;dream d a;dream e a a;");
        bad("1 and 2", x.twin(0), 8);
        x.night(0, 0, NONE);
        good("worn, both 0", x.twin(0), 1);
        fresh("thing a;dream d a;");
        bad("one alone", x.twin(0), 8);
    }

    private static void bargains() {
        about = "READING by its COSTS and 1 is the most";
        fresh("thing a;thing b;rule r of a means 6;rule q of b means less 6;dream d a costs 2;dream e a costs 1;dream f a a costs 3;dream g b;");
        good("6 by 3, 6 by 2, 12 by 4: the first of 3", x.bargain(NONE, NONE), 1);
        fresh("thing a;person w widow;rule r of a means 9;" + times(7, "dream d# a costs 99;") + "dream z a costs 98;");
        good("the last", x.bargain(NONE, NONE), 7);
        good("the first of the dearest", x.bargain(0, NONE), 0);
        fresh("thing a;thing b;rule r of a means 99;rule q of b means 98;dream d b costs 98;dream e a costs 99;");
        good("98 by 99, 99 by 100", x.bargain(NONE, NONE), 1);
        fresh("thing a;thing b;rule r of b means less 1;dream d b costs 99;dream e a costs 99;");
        good("0 is more than less than 0", x.bargain(NONE, NONE), 1);
        fresh("thing a;dream d a costs 99;");
        good("one alone", x.bargain(NONE, NONE), 0);
        fresh("thing a;dream d a;dream e a costs 5;");
        good("0 and 0, the first", x.bargain(NONE, NONE), 0);
    }

    // -------- WEEKS

    private static void weeks() {
        about = "promise 51";
        fresh("thing a;thing b;person w widow;rule r of a means 1;dream d a chance 97;" + times(7, "dream d# b chance 99;"));
        good("one night", x.week(1, NONE, NONE));
        fraction(97, 790);
        good("six nights", x.week(6, NONE, NONE));
        fraction(291, 395);
        good("for a widow", x.week(6, 0, NONE));
        fraction(-291, 395);
        good("five", x.week(5, 0, NONE));
        fraction(-97, 158);
        bad("none", x.week(0, NONE, NONE), 5);
        bad("seven", x.week(7, NONE, NONE), 5);
        fraction(-97, 158);
        x.strike(0);
        good("nothing", x.week(6, 0, NONE));
        fraction(0, 1);
        fresh("thing a;person w widow;rule r of a means 99;" + times(8, "dream d# a a a a a a chance 99;"));
        good("the most", x.week(6, NONE, NONE));
        fraction(3564, 1);
        good("the least", x.week(6, 0, NONE));
        fraction(-3564, 1);
        about = "FRACTIONS are told without a common divisor";
        fresh("thing a;thing b;rule r of a means 1;dream d a;dream e b;dream f b;dream g b;");
        long[][] due = {{1, 4}, {1, 2}, {3, 4}, {1, 1}, {5, 4}, {3, 2}};
        for (int n = 1; n <= 6; n++) {
            good("week of " + n, x.week(n, NONE, NONE));
            fraction(due[n - 1][0], due[n - 1][1]);
        }
    }

    private static void odds() {
        about = "promise 52";
        fresh("thing a;thing b;rule r of a means 1;dream d a chance 97;" + times(7, "dream d# b chance 99;"));
        long all = 1;
        long six = 1;
        for (int n = 1; n <= 6; n++) {
            all *= 790;
            six *= 97;
            good("all of " + n, x.atLeast(n, n, NONE, NONE));
            fraction(six, all);
            good("more than all of " + n, x.atLeast(n, n + 1, NONE, NONE));
            fraction(0, 1);
            good("none of " + n, x.atLeast(n, 0, NONE, NONE));
            fraction(1, 1);
        }
        bad("none", x.atLeast(0, 1, NONE, NONE), 5);
        bad("seven", x.atLeast(7, 1, NONE, NONE), 5);
        good("-999", x.atLeast(6, -999, NONE, NONE));
        fraction(1, 1);
        good("999", x.atLeast(6, 999, NONE, NONE));
        fraction(0, 1);
        bad("1,000", x.atLeast(6, 1000, NONE, NONE), 5);
        bad("-1,000", x.atLeast(6, -1000, NONE, NONE), 5);
        fraction(0, 1);
        about = "that they are no less than a sum";
        fresh("thing a;thing b;person w widow;rule r of a means 3;rule q of b means less 2;dream d a;dream e b chance 2;");
        long[][] two = {{-5, 9, 9}, {-4, 9, 9}, {-3, 5, 9}, {1, 5, 9}, {2, 1, 9}, {6, 1, 9}, {7, 0, 1}};
        for (long[] v : two) {
            good("two nights to " + v[0], x.atLeast(2, (int) v[0], NONE, NONE));
            fraction(v[1] == 9 ? 1 : v[1], v[1] == 9 ? 1 : v[2]);
        }
        good("for a widow", x.atLeast(1, 2, 0, NONE));
        fraction(2, 3);
        good("for a widow", x.atLeast(1, 3, 0, NONE));
        fraction(0, 1);
        fresh("thing a;person w widow;rule r of a means 99;dream d a a a a a a;dream e a a a a a;");
        good("1,188, 1,089 twice, 990", x.atLeast(2, 999, NONE, NONE));
        fraction(3, 4);
        good("-990 alone", x.atLeast(2, -999, 0, NONE));
        fraction(1, 4);
    }

    // -------- NIGHTS

    private static void compares() {
        about = "COMPARES: < or > or =";
        String[] tests = {"< 3", "< 4", "< 5", "= 3", "= 4", "= 5", "> 3", "> 4", "> 5", "< less 4", "= less 4", "> less 4", "= 0", "> less 9999", "< 9999"};
        boolean[] holds = {false, false, true, false, true, false, true, false, false, false, false, true, false, true, true};
        fresh("thing a;person p;person w widow;rule r of a means 4;dream d a;");
        good("night", x.night(0, 0, NONE), 4);
        for (int i = 0; i < tests.length; i++) {
            nights("when sum p " + tests[i] + ";print r;end;");
            good("4 " + tests[i], x.live(0), holds[i] ? 2 : 1);
        }
        fresh("thing a;person p;person w widow;rule r of a means 4;dream d a;");
        good("night", x.night(0, 1, NONE), -4);
        String[] below = {"< less 5", "< less 4", "< less 3", "= less 5", "= less 4", "= 4", "> less 5", "> less 4", "> less 3", "< 0", "= 0", "> less 9999"};
        boolean[] belowHolds = {false, false, true, false, true, false, true, false, false, true, false, true};
        for (int i = 0; i < below.length; i++) {
            nights("when sum w " + below[i] + ";print r;end;");
            good("-4 " + below[i], x.live(0), belowHolds[i] ? 2 : 1);
        }
        for (String zero : new String[] {"= 0", "= less 0", "< 1", "> less 1"}) {
            nights("when sum p " + zero + ";print r;end;");
            good("0 " + zero, x.live(0), 2);
        }
        for (String zero : new String[] {"> 0", "< 0", "< less 0", "= 1", "= less 1"}) {
            nights("when sum p " + zero + ";print r;end;");
            good("0 " + zero, x.live(0), 1);
        }
    }

    private static void worn() {
        about = "worn: the WORTH of that RULE is 0";
        fresh("thing a;thing b;person p;rule r of a means 2;rule q of b means less 2;rule o of a means 0;dream d a b;");
        String steps = "when worn r;stop;end;when worn q;stop;stop;end;night d for p;";
        nights(steps);
        good("2", x.live(0), 3);
        good("1", x.live(0), 3);
        good("0", x.live(0), 2);
        x.print(0);
        good("the other one", x.live(0), 3);
        x.print(1);
        good("as told again", x.live(0), 3);
        nights("when worn o;stop;end;");
        good("0 as told", x.live(0), 2);
        x.strike(2);
        good("struck out or not", x.live(0), 2);
    }

    private static void loops() {
        about = "loop n: as often";
        fresh("thing a;person p;rule r of a means 99;dream d a;");
        int[] often = {1, 2, 98, 99};
        for (int n : often) {
            nights("loop " + n + ";night d for p;end;");
            good("live", x.live(0), n + 1);
            good("nights", x.lived(1), n);
        }
        nights("loop 3;loop 4;night d for p;end;print r;end;stop;");
        good("loop, three times loop, four nights, print, then stop", x.live(0), 1 + 3 * 6 + 1);
        good("nights", x.lived(1), 12);
        nights("loop 2;loop 3;loop 4;print r;end;end;end;");
        good("three deep", x.live(0), 1 + 2 * (1 + 3 * (1 + 4)));
        fresh("thing a;person p;rule r of a means 99;dream d a;");
        nights("loop 5;when worn r;stop;end;loop 40;night d for p;end;end;");
        good("live", x.live(0), 1 + 3 * 42 + 2);
        good("worn behind 99 nights", x.lived(1), 120);
        nights("loop 5;end;loop 6;end;");
        good("end is no step", x.live(0), 2);
    }

    private static void lived(int missed, int left) {
        good("missed", x.lived(0), missed);
        good("left", x.lived(4), left);
    }

    private static void threeHundredSteps() {
        about = "At most 300 STEPS";
        fresh("thing a;person p;rule r of a means 99;dream d a;");
        String most = "loop 99;strike r;strike r;strike r;end;";
        String[] behind = {"", "strike r;", "strike r;strike r;", "strike r;strike r;strike r;", "strike r;stop;strike r;", "strike r;strike r;stop;",
            "strike r;loop 9;end;", "strike r;loop 9;strike r;end;", "strike r;strike r;loop 9;end;", "strike r;when worn r;strike r;end;",
            "strike r;strike r;when worn r;end;", "strike r;when sum p = 0;end;", "strike r;when sum p = 0;strike r;end;", "loop 2;strike r;end;", "loop 1;strike r;end;"};
        int[] steps = {298, 299, 300, 300, 300, 300, 300, 300, 300, 300, 300, 300, 300, 300, 300};
        int[] left = {0, 0, 0, 1, 0, 1, 0, 1, 1, 0, 1, 0, 1, 1, 0};
        for (int i = 0; i < behind.length; i++) {
            nights(most + behind[i]);
            good("live " + behind[i], x.live(1), steps[i]);
            due("left by " + behind[i], x.lived(4), left[i]);
        }
        nights("loop 99;night d for p;strike r;print r;end;strike r;night d for p;night d for p;night d for p;");
        x.mend(0);
        good("live", x.live(0), 300);
        good("the 301st is not done", x.lived(1), 99 + 1);
        lived(99 - 1 + 98 + 1, 1);
        nights("loop 99;loop 99;end;end;loop 99;loop 99;loop 99;end;end;end;");
        good("loops of nothing", x.live(0), 300);
        lived(0, 1);
        nights("loop 99;loop 1;loop 1;end;end;end;strike r;strike r;");
        good("a loop, 99 times two, two", x.live(0), 201);
        lived(2, 0);
        good("300 for each live", x.live(0), 201);
    }

    private static void stops() {
        about = "not by stop";
        fresh("thing a;person p;rule r of a means 99;dream d a;");
        nights("stop;night d for p;");
        good("stop", x.live(0), 1);
        lived(0, 0);
        nights("loop 9;night d for p;stop;end;night d for p;");
        good("stop within a loop", x.live(0), 3);
        good("one night", x.lived(1), 1);
        lived(0, 0);
        nights("loop 9;when worn r;stop;end;end;stop;strike r;");
        good("stop not come to", x.live(0), 11);
        lived(0, 0);
    }

    /** The first seed whose first draw by n is this. */
    private static int seedOf(int draw, int n) {
        int seed = 0;
        while (((seed * 2917 + 10613) % 65536 / 8) % n != draw) {
            seed++;
        }
        return seed;
    }

    private static void draws() {
        about = "a DREAM by a draw by all CHANCES together";
        fresh("thing a;thing b;thing c;thing d;person p;rule ra of a means 1;rule rb of b means 2;rule rc of c means 3;rule rd of d means 4;"
            + "dream da a;dream db b chance 99;dream dc c chance 2;dream dd d chance 98;");
        nights("any for p;print ra;print rb;print rc;print rd;");
        int[] draws = {0, 1, 2, 99, 100, 101, 102, 103, 198, 199};
        int[] dreams = {1, 2, 2, 2, 3, 3, 4, 4, 4, 4};
        int sum = 0;
        for (int i = 0; i < draws.length; i++) {
            good("live", x.live(seedOf(draws[i], 200)), 5);
            sum += dreams[i];
            good("draw " + draws[i], x.person(0, 1), sum);
        }
        about = "s becomes what is left of s times 2,917 and 10,613 by 65,536";
        for (int seed : new int[] {0, 1, 2, 17, 4999, 9998, 9999}) {
            fresh("thing a;thing b;person p;rule ra of a means 1;dream da a;dream db b chance 6;");
            nights("loop 90;any for p;print ra;end;");
            x.live(seed);
            int s = seed;
            int due = 0;
            for (int i = 0; i < 90; i++) {
                s = (s * 2917 + 10613) % 65536;
                due += s / 8 % 7 == 0 ? 1 : 0;
            }
            good("90 draws by seed " + seed, x.person(0, 1), due);
        }
        fresh("thing a;person p;dream da a;");
        nights("any for p;");
        good("one dream alone", x.live(5), 1);
        good("it was dreamt", x.many(7), 1);
    }

    private static void seeds() {
        about = "LIVED by a seed (0 to 9,999)";
        fresh("thing a;person p;rule r of a means 9;dream d a;");
        nights("any for p;");
        bad("-1", x.live(-1), 5);
        bad("10,000", x.live(10000), 5);
        good("nothing was lived", x.many(7), 0);
        bad("none as yet", x.lived(0), 8);
        good("0", x.live(0), 1);
        good("9,999", x.live(9999), 1);
        good("it stays so", x.person(0, 1), 9 + 8);
        bad("what 5", x.lived(5), 5);
        bad("what -1", x.lived(-1), 5);
        good("what 0", x.lived(0), 0);
        good("what 4", x.lived(4), 0);
        x.nights(0);
        good("empty nights", x.live(0), 0);
        for (int what = 0; what < 5; what++) {
            good("lived", x.lived(what), 0);
        }
    }

    private static void missed() {
        about = "MISSED";
        fresh("thing a;person p;rule r of a means 9;rule q of a means 1;dream d a;");
        nights("strike q;strike q;print q;print r;night d for p;print r;print r;strike r;night d for p;print r;");
        good("live", x.live(0), 10);
        lived(5, 0);
        good("nights", x.lived(1), 2);
        good("above 0", x.lived(2), 1);
        good("counted", x.lived(3), 1);
        good("struck out", x.many(9), 3);
        nights("strike r;strike q;");
        good("they stay so", x.live(0), 2);
        lived(2, 0);
        x.mend(0);
        good("once more", x.live(0), 2);
        lived(1, 0);
        fresh("thing a;person p;rule r of a means 0;rule q of a means 1;");
        nights("any for p;any for p;");
        good("no dreams", x.live(0), 2);
        lived(2, 0);
        about = "READ above 0";
        fresh("thing a;thing b;person p;person w widow;rule r of a means 1;dream d a;dream e b;");
        nights("night d for p;print r;night d for w;print r;night e for p;night e for w;");
        good("live", x.live(0), 6);
        good("nights", x.lived(1), 4);
        good("one alone", x.lived(2), 1);
        good("counted", x.lived(3), 2);
    }

    private static void means() {
        about = "promise 55";
        fresh("thing a;thing b;person p;person w widow;rule r of a means 1;dream d a;dream e b;");
        nights("any for p;any for w;print r;");
        for (int[] v : new int[][] {{0, 1}, {0, 2}, {0, 20}, {9999, 1}, {9998, 2}, {9980, 20}, {5000, 7}}) {
            int sum = 0;
            for (int seed = v[0]; seed < v[0] + v[1]; seed++) {
                sum += (seed * 2917 + 10613) % 65536 / 8 % 2 == 0 ? 1 : 0;
            }
            int common = 1;
            for (int i = 1; i <= v[1]; i++) {
                common = sum % i == 0 && v[1] % i == 0 ? i : common;
            }
            good("seeds from " + v[0] + ", " + v[1], x.mean(0, v[0], v[1]));
            fraction(sum / common, v[1] / common);
        }
        bad("no seed", x.mean(0, 0, 0), 5);
        bad("21", x.mean(0, 0, 21), 5);
        bad("-1", x.mean(0, -1, 2), 5);
        bad("10,000", x.mean(0, 9981, 20), 5);
        bad("10,000", x.mean(0, 10000, 1), 5);
        good("all stays", x.many(7), 0);
        good("all stays", x.rule(0, 6), 0);
        nights("night d for w;night d for w;");
        good("below 0", x.mean(1, 0, 20));
        fraction(-1, 1);
        x.night(0, 1, NONE);
        good("by what became already", x.mean(1, 0, 3));
        fraction(-1, 1);
        x.print(0);
        good("by what became already", x.mean(1, 0, 3));
        fraction(-2, 1);
        good("another's sum", x.mean(0, 0, 20));
        fraction(0, 1);
        x.nights(0);
        good("empty nights", x.mean(1, 0, 20));
        fraction(-1, 1);
    }

    // -------- MARKS

    private static void marks() {
        about = "MARKS, at most 3";
        fresh("thing a;person p;rule r of a means 9;dream d a;");
        for (int i = 1; i <= 3; i++) {
            good("mark", x.mark(), i);
            x.night(0, 0, NONE);
        }
        bad("a fourth", x.mark(), 7);
        good("sum", x.person(0, 1), 9 + 8 + 7);
        int[] sums = {17, 9, 0};
        for (int i = 2; i >= 0; i--) {
            good("back", x.back(), i);
            good("sum", x.person(0, 1), sums[2 - i]);
            good("used", x.rule(0, 6), i);
            good("dreamt", x.many(7), i);
        }
        bad("no mark", x.back(), 8);
        good("sum", x.person(0, 1), 0);
        for (int i = 1; i <= 3; i++) {
            good("anew", x.mark(), i);
        }
        bad("a fourth", x.mark(), 7);
        good("back", x.back(), 2);
        good("a third again", x.mark(), 3);
        bad("a fourth", x.mark(), 7);
        x = new DreamBook();
        good("a mark of nothing", x.mark(), 1);
        book("thing a;person p;rule r of a means 1;");
        nights("stop;");
        good("back", x.back(), 0);
        for (int what = 0; what < 10; what++) {
            good("nothing", x.many(what), 0);
        }
        bad("no nights", x.live(0), 8);
        faultyNights("any for ^p;", 3);
    }

    private static void whatStays() {
        about = "back takes back the BOOK, what became of it, the NIGHTS";
        String text = "thing a;thing b;person p;person w widow;season s turns;rule ra of a means 9 by b unless a for w in s;rule rb of a means 5;"
            + "note ra strikes rb;note rb strikes ra;dream d a b costs 4 chance 3;";
        fresh(text);
        nights("strike ra;any for p;");
        x.strike(1);
        x.mark();
        book("thing u;thing v;thing w;thing x;person q widow;person r;season t;season y turns;rule ma of v means 1;rule mb of w means 2;rule mc of u means 3;"
            + "note ma strikes mb;dream e u v w;dream f v;");
        nights("stop;stop;loop 2;end;");
        x.night(0, 0, 0);
        good("back", x.back(), 0);
        int[] many = {2, 2, 1, 2, 2, 1, 3, 0, 0, 2};
        for (int what = 0; what < 10; what++) {
            good("many " + what, x.many(what), many[what]);
        }
        int[] rule = {0, 9, 1, 0, 1, 0, 0, 9};
        for (int what = 0; what < 8; what++) {
            good("rule " + what, x.rule(0, what), rule[what]);
        }
        good("no widow", x.person(0, 0), 0);
        good("widow", x.person(1, 0), 1);
        good("turns", x.turns(0), 1);
        good("open", x.standing(0), 2);
        good("strikes", x.strikes(0, 0), 2);
        good("stables", x.stables(), 2);
        good("things", x.dream(0, 0), 2);
        good("costs", x.dream(0, 1), 4);
        good("chance", x.dream(0, 2), 3);
        good("the second thing", x.dreamAt(0, 1), 1);
        good("live", x.live(0), 2);
        good("struck out", x.many(9), 3);
        good("names", nights("night d for w in s;print rb;"), 2);
        faultyNights("night ^e for w;", 3);
    }
}
