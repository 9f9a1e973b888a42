import java.util.List;
import java.util.function.ToLongFunction;

/**
 * What a call changes that was not refused, and that it changes nothing else: an object is looked through behind each
 * such call and compared with one that was made likewise and not asked, but for what the call is there to change.
 * The kinds of what is seen are told in Looks.
 */
public final class DreamBookKept extends Looks {
    private static final List<String> KINDS = List.of("fraction", "fault", "tray", "found", "stock", "lived", "told", "life", "nights", "tape", "marks");

    public static void main(String[] args) {
        kindsOfWhatIsSeen();
        trays();
        texts();
        byHand();
        found();
        fractions();
        lived();
        marks();
        keptThroughAll();
        finish("each call changes what it is there for, and nothing else");
    }

    private static void kindsOfWhatIsSeen() {
        about = "what is seen";
        for (String line : look(ALL.get())) {
            due("a kind: " + line, one(KINDS.stream().anyMatch(line::startsWith)), 1);
        }
    }

    /** The call is not refused, and changes at the most what begins with one of these words. */
    private static void changes(String what, ToLongFunction<DreamBook> call, String... changed) {
        x = ALL.get();
        call.applyAsLong(x);
        due("status of " + what, x.status(), 0);
        compare(what, x, ALL, line -> List.of(changed).stream().noneMatch(line::startsWith));
    }

    private static long one(boolean done) {
        return done ? 1 : 0;
    }

    private static int read(DreamBook b, String text) {
        return b.book(text.length());
    }

    // -------- what each call is there to change

    private static void trays() {
        about = "a TRAY alone";
        changes("tray", b -> one(b.tray(3, 1, 4)), "tray 3");
        changes("tray anew", b -> one(b.tray(2, 0, 60)), "tray 2");
        changes("tray of none", b -> one(b.tray(0, 0, 0)), "tray 0");
        changes("write", b -> one(b.write(2, 5, -1)), "tray 2 place 5");
        changes("write", b -> one(b.write(0, 0, Long.MIN_VALUE)), "tray 0 place 0");
        changes("pour", b -> one(b.pour(2, 7, 1, 0, 1)), "tray 1 place 0");
        changes("pour on itself", b -> one(b.pour(2, 0, 2, 5, 2)), "tray 2 place 5", "tray 2 place 6");
        changes("pour of nothing", b -> one(b.pour(2, 0, 1, 0, 0)));
        changes("pour to the same place", b -> one(b.pour(2, 0, 2, 0, 9)));
        changes("copyDream", b -> b.copyDream(2, 2), "tray 2 place 0", "tray 2 place 1");
        changes("copyDream of one", b -> b.copyDream(1, 1), "tray 1 place 0");
        about = "a tray is not what was poured from it";
        x = ALL.get();
        good("pour", x.pour(2, 8, 1, 0, 1));
        good("write", x.write(2, 8, 9));
        good("read", x.read(1, 0), 3);
        about = "the THINGS of a DREAM come to a TRAY";
        good("copyDream", x.copyDream(2, 0), 2);
        good("write", x.write(0, 0, 0));
        good("the dream is as told", x.dreamAt(2, 0), 1);
    }

    private static void texts() {
        about = "the tape alone";
        x = ALL.get();
        x.turns(9);
        due("feed", x.feed(1, 2, 3, 4, 5), 60);
        due("status stays", x.status(), 2);
        compare("feed", x, ALL, line -> !line.startsWith("tape"));
        about = "the BOOK, what became of it, the NIGHTS, the tape, fault()";
        changes("book", b -> read(b, NEXT_BOOK), "told", "life", "nights", "tape", "fault");
        changes("book of nothing", b -> b.book(0), "told", "life", "nights", "tape", "fault");
        x = ALL.get();
        good("book", read(x, NEXT_BOOK), 1);
        good("things", x.many(0), 1);
        good("rules", x.many(3), 1);
        good("dreams", x.many(5), 0);
        good("dreamt", x.many(7), 0);
        good("struck out", x.many(9), 0);
        good("in force", x.many(8), 1);
        bad("nights", x.live(0), 8);
        fault("book", 0, NONE);
        due("the tape is empty", x.feed(0, 0, 0, 0, 0), 20);
        about = "the NIGHTS, the tape, fault()";
        x = ALL.get();
        good("nights of the first bytes", x.nights(0), 0);
        compare("nights", x, ALL, line -> !line.startsWith("nights") && !line.startsWith("tape") && !line.startsWith("fault"));
        x = ALL.get();
        x.nights(1);
        good("nights", nights("strike ra;night y for p;"), 2);
        compare("nights", x, ALL, line -> !line.startsWith("nights") && !line.startsWith("tape") && !line.startsWith("fault"));
    }

    private static void byHand() {
        about = "what became of the BOOK alone";
        changes("strike", b -> one(b.strike(0)), "life", "nights");
        changes("mend", b -> one(b.mend(1)), "life", "nights");
        changes("print", b -> b.print(3), "life", "nights");
        changes("print", b -> b.print(0), "life", "nights");
        changes("night", b -> b.night(0, 0, NONE), "life", "nights");
        changes("night", b -> b.night(2, 1, 1), "life", "nights");
        about = "a RULE is STRUCK OUT by hand";
        changes("strike", b -> one(b.strike(2)), "life many 8", "life many 9", "life reading", "nights");
        about = "PRINT: a RULE was never USED";
        x = ALL.get();
        int used = x.rule(3, 6);
        due("it was used", one(used > 0), 1);
        changes("print", b -> b.print(3), "life rule 3", "life reading", "nights");
        x = ALL.get();
        good("print", x.print(3), used);
        good("print again", x.print(3), 0);
        about = "NIGHT: the SUM of that PERSON";
        x = ALL.get();
        int sum = x.person(0, 1);
        int other = x.person(1, 1);
        int reading = x.reading(0, 0, NONE);
        good("night", x.night(0, 0, NONE), sum + reading);
        good("its sum", x.person(0, 1), sum + reading);
        good("another's sum", x.person(1, 1), other);
    }

    private static void found() {
        about = "what was SHOWN or found alone";
        changes("shown", b -> b.shown(4, 0), "found");
        changes("shortest", b -> b.shortest(5, NONE, NONE), "found");
        about = "what stock() found alone";
        changes("stock", b -> b.stock(0, 1, 1), "stock");
        changes("stock", b -> b.stock(b.reading(1, 0, NONE), 0, NONE), "stock");
        about = "what was SHOWN or found alone";
        DreamBook b = new DreamBook();
        take(b, "thing a;thing b;rule r of b means 1;dream d a;dream e b costs 1;");
        due("stock", b.stock(1, NONE, NONE), 1);
        due("lucky", b.lucky(), 1);
        due("stockSet", b.stockSet(), 2);
        due("foundAt", b.foundAt(0), 1);
        due("stock", b.stock(0, NONE, NONE), 0);
        due("foundAt", b.foundAt(0), 1);
    }

    private static void fractions() {
        about = "the FRACTION alone";
        changes("week", b -> one(b.week(6, 1, NONE)), "fraction");
        changes("atLeast", b -> one(b.atLeast(6, 2, NONE, 1)), "fraction");
        changes("mean", b -> one(b.mean(1, 0, 20)), "fraction");
        changes("mean of one", b -> one(b.mean(0, 9999, 1)), "fraction");
    }

    private static void lived() {
        about = "what became of the BOOK, and what lived() tells";
        changes("live", b -> b.live(0), "life", "nights", "lived");
        changes("live", b -> b.live(9999), "life", "nights", "lived");
    }

    private static void marks() {
        about = "the MARKS alone";
        changes("mark", b -> b.mark(), "marks");
        about = "the BOOK, what became of it, the NIGHTS, the MARKS";
        changes("back", b -> b.back(), "told", "life", "nights", "marks");
        about = "all is taken back";
        x = ALL.get();
        x.mark();
        read(x, NEXT_BOOK);
        x.strike(0);
        x.back();
        compare("mark, another book, back", x, ALL, line -> !line.startsWith("tape") && !line.startsWith("fault"));
        x = ALL.get();
        x.mark();
        x.strike(0);
        x.mend(1);
        x.print(3);
        x.night(0, 0, NONE);
        x.night(2, 1, 0);
        x.back();
        compare("mark, what became, back", x, ALL, line -> true);
        x = ALL.get();
        x.mark();
        x.live(17);
        x.back();
        compare("mark, live, back", x, ALL, line -> !line.startsWith("lived"));
        x = ALL.get();
        x.mark();
        x.mark();
        x.night(0, 0, NONE);
        bad("a fourth", x.mark(), 7);
        x.back();
        x.night(1, 1, NONE);
        x.back();
        compare("two marks more, back and back", x, ALL, line -> true);
    }

    // -------- what stays, whatever came since

    private static void keptThroughAll() {
        about = "of live() latest with STATUS 0, whatever came since";
        x = ALL.get();
        long[] lived = new long[5];
        for (int what = 0; what < 5; what++) {
            lived[what] = x.lived(what);
            due("status", x.status(), 0);
        }
        due("something was lived", one(lived[1] > 0), 1);
        long[] found = {x.foundAt(0), x.stockSet()};
        x.nights(1);
        nights("loop 3;any for p in s;any for w;end;");
        x.mean(0, 0, 20);
        good("week", x.week(5, 0, 1));
        long[] fraction = {x.top(), x.bottom()};
        x.mark();
        x.strike(0);
        x.mend(0);
        x.print(0);
        x.night(0, 0, NONE);
        x.back();
        x.back();
        book("thing u;person v;");
        nights("any for v;");
        x.tray(0, 0, 1);
        bad("live", x.live(-1), 5);
        for (int what = 0; what < 5; what++) {
            good("lived " + what, x.lived(what), lived[what]);
        }
        about = "what was found the latest";
        good("foundAt", x.foundAt(0), found[0]);
        bad("foundAt", x.foundAt(1), 8);
        good("stockSet", x.stockSet(), found[1]);
        about = "the FRACTION told latest";
        fraction(fraction[0], fraction[1]);
        about = "of live() latest";
        good("live", x.live(0), 1);
        good("missed: there are no dreams", x.lived(0), 1);
        good("nights", x.lived(1), 0);
    }
}
