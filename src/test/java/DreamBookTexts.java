import java.util.ArrayList;
import java.util.List;

/** The boundaries of texts, a BOOK's and NIGHTS': each sentence at its boundary and one step beyond it. */
public final class DreamBookTexts extends Checks {
    private static final String[] KEPT = {"thing", "person", "widow", "season", "turns", "rule", "of", "means", "less", "by",
        "unless", "for", "in", "note", "strikes", "dream", "costs", "chance", "night", "any", "strike", "print", "when", "sum",
        "worn", "loop", "end", "stop"};

    private static final String TEN_THINGS = times(10, "thing #;");
    private static final String FOUR_PERSONS = times(4, "person p#;");
    private static final String THREE_SEASONS = times(3, "season s#;");
    private static final String TWELVE_RULES = times(12, "rule r# of a means 1;");
    private static final String TWELVE_NOTES = times(12, "note ra strikes r#;");
    private static final String EIGHT_DREAMS = times(8, "dream d# a;");
    private static final String FULL = TEN_THINGS + FOUR_PERSONS + THREE_SEASONS + TWELVE_RULES
        + times(12, "note r# strikes ra;") + EIGHT_DREAMS;

    /** A book to tell nights of. */
    private static final String SMALL = "thing a;person p;season s;rule r of a means 1;dream d a;";

    public static void main(String[] args) {
        emptyTexts();
        bookLength();
        nightsLength();
        bytesBetween();
        bytesAtFirst();
        bytesBehindName();
        bytesInNights();
        digits();
        means();
        costsAndChances();
        loops();
        sums();
        letters();
        keptWords();
        oneNameOneThing();
        toldAhead();
        whichNames();
        tables();
        fullTables();
        thingsOfDream();
        optionsOfRule();
        optionsOfDream();
        optionsOfOthers();
        notes();
        firstAlongTheText();
        leastKind();
        endOfText();
        steps();
        depth();
        ends();
        tests();
        cutBook();
        cutNights();
        oneByteMore();
        finish("all texts are taken or not as they should be");
    }

    private static void expectFault(String what, int answer, int kind, int place) {
        bad(what, answer, 10);
        fault(what, kind, place);
    }

    private static void expectTaken(String what, int answer, int want) {
        good(what, answer, want);
        fault(what, 0, NONE);
    }

    // -------- lengths

    private static void emptyTexts() {
        about = "an empty TEXT";
        x = new DreamBook();
        expectTaken("book of an empty tape", x.book(0), 0);
        expectTaken("nights of an empty tape", x.nights(0), 0);
        bad("book", x.book(1), 5);
        bad("nights", x.nights(1), 5);
        bad("book", x.book(-1), 5);
        bad("nights", x.nights(-1), 5);
        fresh(SMALL);
        feed("thing b;");
        expectTaken("no byte of twenty", x.book(0), 0);
        good("things", x.many(0), 0);
        bad("the tape is empty", x.book(1), 5);
        fresh(SMALL);
        nights("stop;");
        feed("stop;");
        expectTaken("no byte of twenty", x.nights(0), 0);
        good("live", x.live(0), 0);
        bad("the tape is empty", x.nights(1), 5);
        x = new DreamBook();
        expectTaken("one blank", book(" "), 0);
        expectTaken("one blank", nights("\n"), 0);
        expectFault("one letter", book("a"), 2, 0);
        expectFault("one sign", nights(";"), 2, 0);
    }

    private static void bookLength() {
        about = "a TEXT of at most 900 bytes";
        x = new DreamBook();
        expectTaken("899 bytes", book(stretched("thing a;", "thing b;", 899)), 0);
        good("things", x.many(0), 2);
        String most = stretched("thing a;", "thing c;", MOST_BOOK);
        expectTaken("900 bytes", book(most), 0);
        good("things", x.many(0), 2);
        feed(most);
        due("no byte more comes on the tape", x.feed(0, 0, 0, 0, 0), NONE);
        bad("901 bytes", x.book(901), 5);
        bad("1,000 bytes", x.book(1000), 5);
        bad("all", x.book(MAX), 5);
        bad("below 0", x.book(MIN), 5);
        expectFault("899 of 900", x.book(899), 2, 899);
        bad("the tape is empty", x.book(1), 5);
        x = new DreamBook();
        expectFault("a word to the last byte", book(stretched("thing", "a", MOST_BOOK)), 2, MOST_BOOK);
        expectFault("a number to the last byte", book(stretched("thing a;rule r of a means", "9", MOST_BOOK)), 2, MOST_BOOK);
        expectFault("a number to the last byte", book(stretched("thing a;rule r of a means", "99999", MOST_BOOK)), 1, 895);
        expectFault("no token at the last byte", book(stretched("thing a", "A", MOST_BOOK)), 1, 899);
        x = new DreamBook();
        expectTaken("blanks alone", book(" ".repeat(MOST_BOOK)), 0);
        expectFault("blanks behind the last word", book("thing a" + "\n".repeat(893)), 2, MOST_BOOK);
        expectFault("one word", book("a".repeat(MOST_BOOK)), 2, 0);
        expectFault("one number", book("1".repeat(MOST_BOOK)), 1, 0);
        for (String two : new String[] {"a;", ";a", "1;", ";1", "A;", ";A", "a1", "1a", "a ", " a", "=a", "a<"}) {
            int first = two.charAt(0) == ' ' ? 1 : 0;
            expectFault("as many tokens as may be: " + two, book(two.repeat(MOST_BOOK / 2)), two.charAt(first) == 'A' ? 1 : 2, first);
        }
        feed("thing a;thing b;");
        bad("one byte more than were fed", x.book(21), 5);
        expectTaken("all that were fed", x.book(20), 0);
        good("things", x.many(0), 2);
    }

    private static void nightsLength() {
        about = "NIGHTS, at most 300 bytes";
        fresh(SMALL);
        expectTaken("299 bytes", nights(stretched("stop;", "stop;", 299)), 2);
        expectTaken("300 bytes", nights(stretched("stop;", "stop;", MOST_NIGHTS)), 2);
        feed(stretched("stop;", "stop;", 301));
        bad("301 bytes", x.nights(301), 5);
        fault("none as yet", 0, NONE);
        good("the nights stay", x.live(0), 1);
        due("the tape stays", x.feed(0, 0, 0, 0, 0), 340);
        bad("340 bytes", x.nights(340), 5);
        bad("341 bytes", x.nights(341), 5);
        bad("all", x.nights(MAX), 5);
        bad("below 0", x.nights(-1), 5);
        bad("below 0", x.nights(MIN), 5);
        expectFault("300 of them", x.nights(MOST_NIGHTS), 2, MOST_NIGHTS);
        bad("the tape is empty", x.nights(1), 5);
        expectFault("a word to the last byte", nights(stretched("any for", "p", MOST_NIGHTS)), 2, MOST_NIGHTS);
        expectFault("a number to the last byte", nights(stretched("loop", "99", MOST_NIGHTS)), 2, MOST_NIGHTS);
        expectFault("no token at the last byte", nights(stretched("stop", "S", MOST_NIGHTS)), 1, 299);
        expectTaken("blanks alone", nights(" ".repeat(MOST_NIGHTS)), 0);
        expectFault("no end", nights(stretched("loop 1;", "stop;", MOST_NIGHTS)), 2, MOST_NIGHTS);
        feed("stop;stop;stop;stop;");
        bad("one byte more than were fed", x.nights(21), 5);
        expectTaken("all that were fed", x.nights(20), 4);
        feed("stop;" + " ".repeat(880) + "stop;");
        bad("a full tape", x.nights(301), 5);
        expectTaken("the first of a full tape", x.nights(MOST_NIGHTS), 1);
        bad("the tape is empty", x.nights(1), 5);
    }

    // -------- bytes

    private static boolean isBlank(int c) { return c == 10 || c == 32; }

    private static boolean isSmall(int c) { return c >= 'a' && c <= 'z'; }

    private static boolean isDigit(int c) { return c >= '0' && c <= '9'; }

    private static boolean isToken(int c) { return isSmall(c) || isDigit(c) || c == ';' || c == '<' || c == '>' || c == '='; }

    private static void bytesBetween() {
        about = "between TOKENS blanks (10, 32)";
        for (int c = 0; c < 256; c++) {
            x = new DreamBook();
            String what = "byte " + c + " between two words";
            int answer = book("thing" + (char) c + "a;");
            if (isBlank(c)) {
                expectTaken(what, answer, 0);
            } else if (isSmall(c)) {
                expectFault(what, answer, 2, 0);
            } else {
                expectFault(what, answer, isToken(c) ? 2 : 1, 5);
            }
        }
    }

    private static void bytesAtFirst() {
        about = "TOKENS";
        for (int c = 0; c < 256; c++) {
            x = new DreamBook();
            String what = "byte " + c + " ahead of all";
            int answer = book((char) c + " thing a;");
            if (isBlank(c)) {
                expectTaken(what, answer, 0);
            } else {
                expectFault(what, answer, isToken(c) ? 2 : 1, 0);
            }
        }
    }

    private static void bytesBehindName() {
        about = "TOKENS, as long as they go";
        for (int c = 0; c < 256; c++) {
            x = new DreamBook();
            String what = "byte " + c + " behind a name";
            int answer = book("thing a" + (char) c + ";");
            if (isBlank(c) || isSmall(c)) {
                expectTaken(what, answer, 0);
            } else {
                expectFault(what, answer, isToken(c) ? 2 : 1, c == ';' ? 8 : 7);
            }
        }
    }

    private static void bytesInNights() {
        about = "such TOKENS";
        for (int c = 0; c < 256; c++) {
            fresh(SMALL);
            String what = "byte " + c + " behind a number";
            int answer = nights("loop 1" + (char) c + ";end;");
            if (isBlank(c) || isDigit(c)) {
                expectTaken(what, answer, 1);
            } else {
                expectFault(what, answer, isToken(c) ? 2 : 1, c == ';' ? 7 : 6);
            }
        }
        expectTaken("no blanks", nights("when sum p<less9999;loop1;any for p in s;end;end;"), 3);
    }

    // -------- numbers

    private static void digits() {
        about = "NUMBERS (1 to 4 digits)";
        x = new DreamBook();
        String ahead = "thing a;rule r of a means ";
        for (String seven : new String[] {"7", "07", "007", "0007"}) {
            expectTaken(seven, book(ahead + seven + ";"), 1);
            good("means", x.rule(0, 1), 7);
        }
        faulty(ahead + "^00007;", 1);
        faulty(ahead + "^000000;", 1);
        faulty(ahead + "less ^00007;", 1);
        faulty(ahead + "^9999;", 4);
        faulty(ahead + "^10000;", 1);
        faulty(ahead + "^4294967299;", 1);
        faulty(ahead + "7 ^00007;", 1);
        faulty(ahead + "7 ^0007;", 2);
        faulty("^00000", 1);
        faulty("^0000", 2);
    }

    private static void means() {
        about = "MEANS (0 to 99; below 0 with less)";
        x = new DreamBook();
        String ahead = "thing a;rule r of a means ";
        for (int v : new int[] {0, 1, 98, 99}) {
            expectTaken("means " + v, book(ahead + v + ";"), 1);
            good("means", x.rule(0, 1), v);
            expectTaken("means less " + v, book(ahead + "less " + v + ";"), 1);
            good("means", x.rule(0, 1), -v);
        }
        faulty(ahead + "^100;", 4);
        faulty(ahead + "less ^100;", 4);
        faulty(ahead + "^;", 2);
        faulty(ahead + "less ^;", 2);
        faulty(ahead + "less ^less 1;", 2);
        faulty(ahead + "1 ^less;", 2);
    }

    private static void costsAndChances() {
        about = "COSTS (0 to 99; 0 without), CHANCE (1 to 99; 1 without)";
        x = new DreamBook();
        String ahead = "thing a;dream d a";
        book(ahead + " costs 77 chance 88;");
        expectTaken("without", book(ahead + ";"), 0);
        good("costs", x.dream(0, 1), 0);
        good("chance", x.dream(0, 2), 1);
        for (int v : new int[] {1, 2, 98, 99}) {
            expectTaken("costs " + v, book(ahead + " costs " + v + ";"), 0);
            good("costs", x.dream(0, 1), v);
            good("chance", x.dream(0, 2), 1);
            expectTaken("chance " + v, book(ahead + " chance " + v + ";"), 0);
            good("costs", x.dream(0, 1), 0);
            good("chance", x.dream(0, 2), v);
        }
        expectTaken("costs 0", book(ahead + " costs 0 chance 1;"), 0);
        good("costs", x.dream(0, 1), 0);
        faulty(ahead + " costs ^100;", 4);
        faulty(ahead + " chance ^0;", 4);
        faulty(ahead + " chance ^0000;", 4);
        faulty(ahead + " chance ^100;", 4);
        faulty(ahead + " costs 99 chance ^0;", 4);
        faulty(ahead + " costs ^less 1;", 2);
        faulty(ahead + " costs ^;", 2);
        faulty(ahead + " costs ^chance 1;", 2);
        faulty(ahead + " chance ^;", 2);
    }

    private static void loops() {
        about = "loop n (1 to 99)";
        fresh(SMALL);
        for (int n : new int[] {1, 2, 98, 99}) {
            expectTaken("loop " + n, nights("loop " + n + ";stop;end;"), 2);
            nights("loop " + n + ";print r;end;");
            good("as often", x.live(0), n + 1);
        }
        faultyNights("loop ^0;end;", 4);
        faultyNights("loop ^100;end;", 4);
        faultyNights("loop ^9999;end;", 4);
        faultyNights("loop ^10000;end;", 1);
        faultyNights("loop ^;end;", 2);
        faultyNights("loop ^less 1;end;", 2);
        faultyNights("loop 1 ^2;end;", 2);
    }

    private static void sums() {
        about = "when sum: of a PERSON (0 to 9,999)";
        fresh(SMALL);
        for (String v : new String[] {"0", "9999", "less 0", "less 9999", "less 0001"}) {
            expectTaken(v, nights("when sum p < " + v + ";end;"), 1);
        }
        faultyNights("when sum p < ^10000;end;", 1);
        faultyNights("when sum p < less ^10000;end;", 1);
        faultyNights("when sum p < less ^less 1;end;", 2);
        faultyNights("when sum p < ^;end;", 2);
    }

    // -------- names

    private static void letters() {
        about = "NAME: a WORD of 1 to 8 letters";
        x = new DreamBook();
        for (String name : new String[] {"a", "z", "abcdefg", "abcdefgh", "zzzzzzzz", "aaaaaaaa"}) {
            expectTaken(name, book("thing " + name + ";dream d " + name + ";"), 0);
            good("dreamAt", x.dreamAt(0, 0), 0);
        }
        faulty("thing ^abcdefghi;", 2);
        faulty("thing ^zzzzzzzzz;", 2);
        faulty("thing ^;", 2);
        faulty("person ^abcdefghi;", 2);
        faulty("season ^abcdefghi;", 2);
        faulty("rule ^abcdefghi of a means 1;", 2);
        faulty("dream ^abcdefghi a;", 2);
        String told = "thing abcdefgh;person p;season s;rule r of abcdefgh means 1;";
        faulty(told + "rule q of ^abcdefghi means 1;", 2);
        faulty(told + "rule q of abcdefgh means 1 by ^abcdefghi;", 2);
        faulty(told + "rule q of abcdefgh means 1 unless ^abcdefghi;", 2);
        faulty(told + "rule q of abcdefgh means 1 for ^abcdefghi;", 2);
        faulty(told + "rule q of abcdefgh means 1 in ^abcdefghi;", 2);
        faulty(told + "note ^abcdefghi strikes r;", 2);
        faulty(told + "note r strikes ^abcdefghi;", 2);
        faulty(told + "dream d ^abcdefghi;", 2);
        faulty(told + "dream d abcdefgh ^abcdefghi;", 2);
        faulty(told + "dream d ^abcdefgi;", 3);
        faulty(told + "dream d ^abcdefg;", 3);
        faulty(told + "dream d ^bbcdefgh;", 3);
        expectTaken("unlike names", book("thing abcdefgh;thing abcdefgi;thing bbcdefgh;thing abcdefg;thing a;thing aa;thing aaa;thing z;thing az;thing zz;"
            + "dream d aaa az zz abcdefgi bbcdefgh abcdefg;"), 0);
        int[] things = {6, 8, 9, 1, 2, 3};
        for (int k = 0; k < 6; k++) {
            good("dreamAt", x.dreamAt(0, k), things[k]);
        }
        fresh(SMALL);
        faultyNights("night ^abcdefghi for p;", 2);
        faultyNights("night d for ^abcdefghi;", 2);
        faultyNights("any for p in ^abcdefghi;", 2);
        faultyNights("strike ^abcdefghi;", 2);
        faultyNights("when worn ^abcdefghi;end;", 2);
        faultyNights("when sum ^abcdefghi = 0;end;", 2);
        faultyNights("night ^abcdefgh for p;", 3);
    }

    private static void keptWords() {
        about = "a NAME is none of ..";
        for (String word : KEPT) {
            x = new DreamBook();
            faulty("thing ^" + word + ";", 2);
            faulty("thing a;rule r of ^" + word + " means 1;", 2);
            faulty("thing a;dream ^" + word + " a;", 2);
            faulty("thing a;dream d ^" + word + ";", 2);
            expectTaken(word + "x", book("thing " + word + "x;dream d " + word + "x;"), 0);
            String less = word.substring(0, word.length() - 1);
            if (!less.equals("strike")) {
                expectTaken(less, book("thing " + less + ";dream d " + less + ";"), 0);
            }
        }
        for (String word : KEPT) {
            if (!"thing person season rule note dream".contains(word)) {
                faulty("^" + word + " a;", 2);
            }
            if (!"night any strike print when loop stop".contains(word)) {
                fresh(SMALL);
                faultyNights("^" + word + ";", 2);
            }
        }
    }

    private static void oneNameOneThing() {
        about = "One NAME is of one thing alone";
        x = new DreamBook();
        String[] ahead = {"thing ", "person ", "season ", "rule ", "dream "};
        String[] behind = {";", ";", ";", " of t means 1;", " t;"};
        for (int one = 0; one < 5; one++) {
            for (int other = 0; other < 5; other++) {
                faulty("thing t;" + ahead[one] + "n" + behind[one] + ahead[other] + "^n" + behind[other], 3);
            }
            expectTaken("another name", book("thing t;" + ahead[one] + "n" + behind[one] + ahead[one] + "m" + behind[one]), one == 3 ? 2 : 0);
        }
        expectTaken("notes have none", book("thing t;rule r of t means 1;note r strikes r;thing strik;"), 1);
    }

    private static void toldAhead() {
        about = "what a PART names must be told ahead";
        x = new DreamBook();
        String[] parts = {"thing b;", "person q;", "season u;", "rule w of a means 1;"};
        String[][] naming = {
            {"rule r of ^b means 1;", "rule r of a means 1 by ^b;", "rule r of a means 1 unless ^b;", "dream d ^b;", "dream d a ^b;"},
            {"rule r of a means 1 for ^q;"},
            {"rule r of a means 1 in ^u;"},
            {"note ^w strikes o;", "note o strikes ^w;"},
        };
        String told = "thing a;rule o of a means 1;";
        for (int kind = 0; kind < 4; kind++) {
            for (String part : naming[kind]) {
                faulty(told + part + parts[kind], 3);
                String ahead = told + parts[kind] + part.replace("^", "");
                expectTaken(ahead, book(ahead), ahead.split("rule ", -1).length - 1);
            }
        }
        faulty(told + "rule r of a means 1 by ^r;", 3);
        faulty(told + "dream d ^d;", 3);
        fresh(SMALL);
        faulty("thing b;dream e ^a;", 3);
        expectTaken("the old book's names are there still", nights("night d for p in s;strike r;"), 2);
        x.book(0);
        faultyNights("any for ^p;", 3);
        faultyNights("strike ^r;", 3);
    }

    private static void whichNames() {
        about = "a NAME that is no such one";
        String told = "thing a;person p;season s;rule r of a means 1;dream d a;";
        String[] names = {"a", "p", "s", "r", "d", "none"};
        String[] slots = {"rule n of ^ means 1;", "rule n of a means 1 by ^;", "rule n of a means 1 unless ^;", "rule n of a means 1 for ^;",
            "rule n of a means 1 in ^;", "note ^ strikes r;", "note r strikes ^;", "dream n ^;", "dream n a a a a a ^;"};
        int[] kinds = {0, 0, 0, 1, 2, 3, 3, 0, 0};
        x = new DreamBook();
        for (int i = 0; i < slots.length; i++) {
            for (int kind = 0; kind < names.length; kind++) {
                if (kind == kinds[i]) {
                    expectTaken(slots[i], book(told + slots[i].replace("^", names[kind])), i < 5 ? 2 : 1);
                } else {
                    faulty(told + slots[i].replace("^", "^" + names[kind]), 3);
                }
            }
        }
        fresh(told);
        String[] steps = {"night ^ for p;", "night d for ^;", "night d for p in ^;", "any for ^;", "any for p in ^;", "strike ^;", "print ^;",
            "when sum ^ = 0;end;", "when worn ^;end;"};
        int[] of = {4, 1, 2, 1, 2, 3, 3, 1, 3};
        for (int i = 0; i < steps.length; i++) {
            for (int kind = 0; kind < names.length; kind++) {
                if (kind == of[i]) {
                    expectTaken(steps[i], nights(steps[i].replace("^", names[kind])), 1);
                } else {
                    faultyNights(steps[i].replace("^", "^" + names[kind]), 3);
                }
            }
        }
    }

    // -------- tables

    private static void tables() {
        about = "how many there may be";
        String[] kinds = {"thing z#;", "person z#;", "season z#;", "rule z# of a means 1;", "note ra strikes r#;", "dream z# a;"};
        int[] most = {10, 4, 3, 12, 12, 8};
        for (int kind = 0; kind < 6; kind++) {
            String ahead = kind < 3 ? "" : kind == 4 ? "thing a;" + TWELVE_RULES : "thing a;";
            int rules = kind == 3 ? most[3] : kind == 4 ? 12 : 0;
            x = new DreamBook();
            expectTaken("none of kind " + kind, book(ahead), kind == 4 ? 12 : 0);
            good("many", x.many(kind), 0);
            expectTaken("all but one of kind " + kind, book(ahead + times(most[kind] - 1, kinds[kind])), kind == 3 ? 11 : rules);
            good("many", x.many(kind), most[kind] - 1);
            expectTaken("full of kind " + kind, book(ahead + times(most[kind], kinds[kind])), rules);
            good("many", x.many(kind), most[kind]);
            String full = ahead + times(most[kind], kinds[kind]);
            String word = kinds[kind].substring(0, kinds[kind].indexOf(' '));
            fresh(full);
            for (String behind : new String[] {" more;", ";", "", " za;", " 12345", " Z"}) {
                faulty(full + "^" + word + behind, 6);
            }
            good("the old book stays", x.many(kind), most[kind]);
            if (kind < 3) {
                String one = kinds[kind].replace("#", "a");
                faulty(full + one.replace(word, "^" + word), 6);
            }
        }
    }

    private static void fullTables() {
        about = "a full book";
        x = new DreamBook();
        int[] most = {10, 4, 3, 12, 12, 8};
        expectTaken("all of all", book(FULL), 12);
        for (int kind = 0; kind < 6; kind++) {
            good("many", x.many(kind), most[kind]);
        }
        for (String word : new String[] {"thing", "person", "season", "rule", "note", "dream"}) {
            x = new DreamBook();
            faulty(FULL + "^" + word + " more;", 6);
        }
        for (char c = 'a'; c < 'a' + 7; c++) {
            x = new DreamBook();
            String lessOne = FULL.substring(0, FULL.length() - "dream dh a;".length());
            faulty(lessOne + "dream ^d" + c + " a;", 3);
            faulty(lessOne + "dream ^r" + c + " a;", 3);
            faulty(lessOne + "dream ^" + c + " a;", 3);
        }
        fresh(FULL);
        expectTaken("names of the last ones", nights("night dh for pd in sc;strike rl;print rl;when worn rl;any for pd in sc;end;"), 5);
        good("live", x.live(0), 4);
        good("the last person", x.person(3, 1), 1);
        good("the second rule", x.rule(1, 6), 1);
        good("the last rule", x.many(9), 2048);
    }

    private static void thingsOfDream() {
        about = "a DREAM, then 1 to 6 THINGS";
        x = new DreamBook();
        for (int n = 1; n <= 6; n++) {
            expectTaken(n + " things", book("thing a;thing b;dream d" + " a".repeat(n - 1) + " b;"), 0);
            good("things", x.dream(0, 0), n);
            good("the last", x.dreamAt(0, n - 1), 1);
            bad("behind the last", x.dreamAt(0, n), 8);
            expectTaken(n + " things with costs", book("thing a;dream d" + " a".repeat(n) + " costs 9 chance 2;"), 0);
            good("things", x.dream(0, 0), n);
        }
        faulty("thing a;dream d^", 2);
        faulty("thing a;dream d ^;", 2);
        faulty("thing a;dream d ^costs 1;", 2);
        faulty("thing a;dream d ^1;", 2);
        String six = "thing a;person p;dream d a a a a a a ";
        faulty(six + "^a;", 6);
        faulty(six + "^a a;", 6);
        faulty(six + "^a", 6);
        faulty(six + "^p;", 3);
        faulty(six + "^d;", 3);
        faulty(six + "^b a;", 3);
        faulty(six + "^rule;", 2);
        faulty(six + "^abcdefghi;", 2);
        faulty(six + "^1;", 2);
        faulty(six + "^00000;", 1);
        faulty(six + "^", 2);
        faulty("thing a;dream d a a a a a ^b a;", 3);
    }

    // -------- parts that may be there or not

    private static void optionsOfRule() {
        about = "[by NAME] [unless NAME] [for NAME] [in NAME]";
        x = new DreamBook();
        String ahead = "thing a;thing b;thing c;person p;person q;season s;season t;rule r of a means 9";
        String[] words = {" by ", " unless ", " for ", " in "};
        String[] names = {"b", "c", "q", "t"};
        int[] values = {1, 2, 1, 1};
        for (int set = 0; set < 16; set++) {
            StringBuilder text = new StringBuilder(ahead);
            for (int i = 0; i < 4; i++) {
                text.append((set >> i & 1) == 1 ? words[i] + names[i] : "");
            }
            expectTaken(text.toString(), book(text + ";"), 1);
            for (int i = 0; i < 4; i++) {
                if ((set >> i & 1) == 1) {
                    good("rule", x.rule(0, 2 + i), values[i]);
                } else {
                    bad("rule", x.rule(0, 2 + i), 8);
                }
            }
        }
        for (int late = 0; late < 4; late++) {
            faulty(ahead + words[late] + "^;", 2);
            for (int early = 0; early <= late; early++) {
                faulty(ahead + words[late] + names[late] + " ^" + words[early].trim() + " " + names[early] + ";", 2);
            }
        }
        expectTaken("the thing itself", book(ahead + " by a unless a;"), 1);
        good("by", x.rule(0, 2), 0);
        good("unless", x.rule(0, 3), 0);
    }

    private static void optionsOfDream() {
        about = "[costs NUMBER] [chance NUMBER]";
        x = new DreamBook();
        String ahead = "thing a;dream d a";
        faulty(ahead + " chance 1 ^costs 1;", 2);
        faulty(ahead + " chance 1 ^chance 1;", 2);
        faulty(ahead + " costs 1 ^costs 1;", 2);
        faulty(ahead + " costs 1 ^a;", 2);
        faulty(ahead + " costs 1 chance 1 ^a;", 2);
        faulty(ahead + " costs ^a;", 2);
        faulty(ahead + " ^1;", 2);
    }

    private static void optionsOfOthers() {
        about = "[widow], [turns], [in NAME], [less]";
        x = new DreamBook();
        expectTaken("widow, turns", book("person p;person q widow;season s;season t turns;"), 0);
        for (int i = 0; i < 2; i++) {
            good("widow", x.person(i, 0), i);
            good("turns", x.turns(i), i);
        }
        faulty("person p widow ^widow;", 2);
        faulty("person p ^turns;", 2);
        faulty("person ^widow;", 2);
        faulty("season s turns ^turns;", 2);
        faulty("season s ^widow;", 2);
        faulty("season ^turns;", 2);
        faulty("thing a ^widow;", 2);
        faulty("thing a ^turns;", 2);
        fresh(SMALL);
        expectTaken("in", nights("night d for p;night d for p in s;any for p;any for p in s;"), 4);
        faultyNights("night d ^in s for p;", 2);
        faultyNights("night d for p in ^;", 2);
        faultyNights("any for p in s ^in s;", 2);
        faultyNights("any for p ^s;", 2);
    }

    private static void notes() {
        about = "a NOTE told already (at its second NAME)";
        x = new DreamBook();
        String ahead = "thing a;rule r of a means 1;rule q of a means 1;";
        expectTaken("all four", book(ahead + "note r strikes r;note r strikes q;note q strikes r;note q strikes q;"), 2);
        good("notes", x.many(4), 4);
        faulty(ahead + "note r strikes q;note r strikes ^q;", 5);
        faulty(ahead + "note r strikes r;note r strikes ^r;", 5);
        faulty(ahead + "note r strikes q;note q strikes r;note q strikes q;note r strikes ^q", 5);
        faulty(ahead + "note r strikes q;note r strikes ^a;", 3);
        faulty("thing a;" + TWELVE_RULES + times(11, "note ra strikes r#;") + "note ra strikes ^rk;", 5);
        faulty("thing a;" + TWELVE_RULES + TWELVE_NOTES + "^note ra strikes ra;", 6);
        faulty(ahead + "note r ^q;", 2);
        faulty(ahead + "note r strikes ^;", 2);
        faulty(ahead + "note ^;", 2);
    }

    // -------- which fault

    private static void firstAlongTheText() {
        about = "FAULTS, the first along the text";
        x = new DreamBook();
        faulty("thing ^; A", 2);
        faulty("thing a;^A thing a;", 1);
        faulty("thing a;thing ^a 12345", 3);
        faulty("thing a;rule r of a means ^100 A", 4);
        faulty(TEN_THINGS + "^thing A", 6);
        faulty("thing a;rule r of a means 1;note r strikes r;note r strikes ^r A", 5);
        faulty("thing a;thing ^a;" + TEN_THINGS, 3);
        faulty("thing ^12345 12345", 1);
        faulty("^A A", 1);
        fresh(SMALL);
        faultyNights("loop ^0;A", 4);
        faultyNights("loop 1;^A", 1);
        faultyNights("loop 1;loop 1;loop 1;^loop 0;", 7);
        faultyNights(times(30, "stop;") + "^stop A", 6);
        faultyNights("^end;A", 2);
    }

    private static void leastKind() {
        about = "of one TOKEN the least kind";
        x = new DreamBook();
        // no token is so wherever it stands
        faulty("thing ^12345;", 1);
        faulty("thing a;rule r of ^A means 1;", 1);
        faulty("thing a;dream d a a a a a a ^A;", 1);
        faulty("thing a;dream d a chance ^00000;", 1);
        faulty("thing a;rule r of a means 1;note r strikes r;note r strikes ^R;", 1);
        // a word of nine letters is no name, so that it is none told ahead
        faulty("thing a;dream d a a a a a a ^aaaaaaaaa;", 2);
        faulty("thing a;rule r of a means ^b;", 2);
        // behind 3
        faulty("thing a;dream d a a a a a a ^d;", 3);
        fresh(SMALL);
        String thirty = times(27, "stop;") + "loop 1;loop 1;loop 1;";
        faultyNights(thirty + "^loop 1;", 6);
        faultyNights(thirty + "^when worn r;", 6);
        faultyNights(thirty + "^thing;", 2);
        faultyNights(thirty + "^less;", 2);
        faultyNights(times(30, "stop;") + "^end;", 2);
        faultyNights("loop 1;loop 1;loop 1;^00000;", 1);
    }

    private static void endOfText() {
        about = "2: the end: the text's length";
        x = new DreamBook();
        String part = "thing a;rule r of a means less 3 by a unless a";
        for (int i = 0; i < 4; i++) {
            String blanks = " \n \n".substring(0, i);
            faulty("thing" + blanks + "^", 2);
            faulty("thing a" + blanks + "^", 2);
            faulty(part + blanks + "^", 2);
            faulty("thing a;dream d" + blanks + "^", 2);
            faulty("thing a;rule r of a means" + blanks + "^", 2);
            fresh(SMALL);
            faultyNights("any" + blanks + "^", 2);
            faultyNights("loop 1;" + blanks + "^", 2);
            faultyNights("stop" + blanks + "^", 2);
            faultyNights("when sum p" + blanks + "^", 2);
        }
        feed("thing a thing b;");
        expectFault("first bytes", x.book(7), 2, 7);
        feed("thing a   ;");
        expectFault("first bytes", x.book(9), 2, 9);
    }

    // -------- nights

    private static void steps() {
        about = "a 31st STEP (at its WORD; end is none)";
        fresh(SMALL);
        String[] steps = {"night d for p;", "any for p;", "strike r;", "print r;", "when worn r;end;", "loop 1;end;", "stop;"};
        expectTaken("29 steps", nights(times(29, "stop;")), 29);
        String thirty = times(30, "stop;");
        expectTaken("30 steps", nights(thirty), 30);
        for (String step : steps) {
            expectTaken("29 and " + step, nights(times(29, "stop;") + step), 30);
            faultyNights(thirty + "^" + step, 6);
        }
        String most = times(30, "loop1;end;");
        due("length", most.length(), MOST_NIGHTS);
        expectTaken("30 steps, 30 ends, 300 bytes", nights(most), 30);
        good("live", x.live(0), 30);
        expectTaken("three deep", nights(times(10, "loop1;loop1;loop1;end;end;end;")), 30);
        good("live", x.live(0), 30);
        expectTaken("an end behind the last", nights("loop1;" + times(29, "stop;") + "end;"), 30);
        faultyNights("loop1;" + times(29, "stop;") + "end;^stop;", 6);
        faultyNights("loop1;" + times(29, "stop;") + "^stop;end;", 6);
        faultyNights(thirty + "^stop", 6);
        faultyNights(thirty + "^night none for p;", 6);
    }

    private static void depth() {
        about = "a when, loop within three others (at its WORD)";
        String[] begins = {"loop 1;", "when worn r;", "when sum p = 0;"};
        for (int i = 0; i < 27; i++) {
            fresh(SMALL);
            String three = begins[i % 3] + begins[i / 3 % 3] + begins[i / 9];
            expectTaken(three, nights(three + "end;end;end;"), 3);
            expectTaken(three, nights(three + "end;" + begins[i % 3] + "stop;end;end;end;"), 5);
            for (String begin : begins) {
                faultyNights(three + "^" + begin + "end;end;end;end;", 7);
            }
            faultyNights(three + "end;loop 1;^loop 1;", 7);
            faultyNights(three + "end;end;end;" + three + "^when", 7);
        }
        faultyNights("loop 1;loop 1;loop 1;stop;any for p;^loop 0;", 7);
        expectTaken("other steps within three", nights("loop 1;loop 1;loop 1;stop;any for p;night d for p;strike r;print r;end;end;end;"), 8);
        expectTaken("one behind the other", nights(times(8, "loop 1;end;") + times(3, "loop 1;") + times(3, "end;")), 11);
    }

    private static void ends() {
        about = "an end without a beginning; the text's end ahead of an end";
        fresh(SMALL);
        faultyNights("^end;", 2);
        faultyNights("stop;^end;", 2);
        faultyNights("loop 1;end;^end;", 2);
        faultyNights("loop 1;when worn r;end;end;^end;", 2);
        faultyNights("loop 1;^", 2);
        faultyNights("loop 1;loop 1;end;^", 2);
        faultyNights("loop 1;loop 1;loop 1;end;end;^", 2);
        faultyNights("loop 1;end^", 2);
        faultyNights("loop 1;end ^end;", 2);
        faultyNights("loop 1 ^end;", 2);
        expectTaken("nothing within", nights("loop 1;end;when worn r;end;"), 2);
    }

    private static void tests() {
        about = "TEST: sum NAME COMPARES [less] NUMBER, or worn NAME";
        fresh(SMALL);
        for (String compares : new String[] {"<", ">", "="}) {
            expectTaken(compares, nights("when sum p " + compares + " 1;end;"), 1);
            faultyNights("when sum p " + compares + " ^" + compares + " 1;end;", 2);
            faultyNights("when worn r ^" + compares + " 0;end;", 2);
            faultyNights("when sum ^" + compares + " 0;end;", 2);
            faultyNights("stop ^" + compares, 2);
            faulty("thing a ^" + compares, 2);
        }
        faultyNights("when sum p ^;", 2);
        faultyNights("when sum p ^less 1;", 2);
        faultyNights("when sum p ^1;", 2);
        faultyNights("when ^p = 1;", 2);
        faultyNights("when ^;", 2);
        faultyNights("when worn ^;", 2);
        faultyNights("when worn ^sum;", 2);
        faultyNights("when ^less 1;", 2);
    }

    // -------- texts that are cut

    /**
     * A text as its tokens, each with a letter ahead of it: K a kept word whose beginnings can't stand in its place,
     * N a new name, R a name told ahead or a word in whose place a name may stand, D a number, S a sign, E the sign
     * behind which the text may end. It is told as a book, or as nights of one.
     */
    private static void cut(String marked, String book) {
        List<String> tokens = new ArrayList<>();
        List<Integer> places = new ArrayList<>();
        StringBuilder text = new StringBuilder();
        for (String token : marked.split(" ")) {
            text.append(token.charAt(0) == 'S' || token.charAt(0) == 'E' || text.length() == 0 ? "" : " ");
            places.add(text.length());
            tokens.add(token);
            text.append(token.substring(1));
        }
        int last = -1;
        for (int n = 0; n <= text.length(); n++) {
            if (last + 1 < tokens.size() && places.get(last + 1) < n) {
                last++;
            }
            char kind = last < 0 ? 'E' : tokens.get(last).charAt(0);
            boolean within = last >= 0 && n < places.get(last) + tokens.get(last).length() - 1;
            String what = "the first " + n + " of " + text;
            fresh(book);
            feed(text.toString());
            int answer = book.isEmpty() ? x.book(n) : x.nights(n);
            if (kind == 'E') {
                good(what, answer >= 0 ? 1 : 0, 1);
                fault(what, 0, NONE);
            } else if (within && (kind == 'K' || kind == 'R')) {
                expectFault(what, answer, kind == 'K' ? 2 : 3, places.get(last));
            } else {
                expectFault(what, answer, 2, n);
            }
        }
    }

    private static void cutBook() {
        about = "a book cut within a word, a number, a part";
        cut("Kthing Ngoose E; Kthing Nwater E; Kperson Nwido Kwidow E; Kperson Nann E; Kseason Nlent Kturns E; Kseason Nmay E; "
            + "Krule Ngold Kof Rgoose Kmeans D99 E; Krule Nfly Kof Rwater Kmeans Kless D0017 Kby Rgoose Kunless Rwater Kfor Rwido Kin Rmay E; "
            + "Knote Rgold Kstrikes Rfly E; Knote Rfly Kstrikes Rfly E; Kdream None Rgoose Rwater Rcosts D99 Kchance D99 E; "
            + "Kdream Ntwo Rwater Rchance D12 E; Kdream Ntri Rwater Rwater Rwater Rwater Rwater Rwater Rcosts D00 E;", "");
    }

    private static void cutNights() {
        about = "nights cut within a word, a number, a part";
        cut("Knight Rone Kfor Rann Kin Rmay E; Kany Kfor Rann E; Kstrike Rgold E; Kprint Rgold E; Kwhen Ksum Rann S< Kless D9999 S; "
            + "Kstop S; Kloop D99 S; Kend S; Kend E; Kwhen Kworn Rgold S; Kend E; Kstop E;",
            "thing goose;person ann;season may;rule gold of goose means 9;dream one goose;");
    }

    private static void oneByteMore() {
        about = "one byte more";
        x = new DreamBook();
        String text = "thing goose;dream one goose;";
        String[] more = {";", "<", "a", "1", "A", "\n"};
        int[] kinds = {2, 2, 2, 2, 1, 0};
        for (int i = 0; i < more.length; i++) {
            int answer = book(text + more[i]);
            if (kinds[i] == 0) {
                expectTaken("a blank behind", answer, 0);
            } else {
                expectFault(more[i] + " behind", answer, kinds[i], text.length());
            }
        }
        fresh(SMALL);
        for (int i = 0; i < more.length; i++) {
            int answer = nights("stop;" + more[i]);
            if (kinds[i] == 0) {
                expectTaken("a blank behind", answer, 1);
            } else {
                expectFault(more[i] + " behind", answer, kinds[i], 5);
            }
        }
    }
}
