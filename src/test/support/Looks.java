import java.util.ArrayList;
import java.util.HashMap;
import java.util.List;
import java.util.Map;
import java.util.function.Predicate;
import java.util.function.Supplier;

/**
 * Objects with something of all there is, and what is seen when one is looked through, a line for each answer. The
 * first word of a line tells what it is about: fraction, fault, tray, found, stock, lived, told (the BOOK's words),
 * life (what became of the BOOK), nights (what living them does), tape, marks (how many, and what they kept).
 */
abstract class Looks extends Checks {
    static final String NEXT_BOOK = "thing o;rule n of o means 8;";
    private static final String RICH = "thing a;thing b;thing c;person p;person w widow;season s;season t turns;"
        + "rule ra of a means 5;rule rb of b means less 3 by a;rule rc of b means 2 unless c for p;rule rd of c means 4 in t;"
        + "rule re of a means less 9;note rd strikes rc;note re strikes re;"
        + "dream x a b costs 4 chance 2;dream y b;dream z b c chance 3;";
    private static final Map<Supplier<DreamBook>, List<String>> SEEN = new HashMap<>();

    static final Supplier<DreamBook> MADE = DreamBook::new;
    static final Supplier<DreamBook> ALL = Looks::withAll;
    static final Supplier<DreamBook> PLAIN = Looks::withoutDreams;
    static final Supplier<DreamBook> FULL = Looks::withFullTape;
    static final Supplier<DreamBook> FAR = Looks::withFarSums;

    // -------- objects to ask

    /** Trays, a book that was lived with, nights, a mark, a fraction, a fault, a tape. */
    static DreamBook withAll() {
        DreamBook b = new DreamBook();
        take(b, RICH);
        takeNights(b, "night x for p;any for w in t;strike rb;when worn rc;stop;end;loop 2;any for p;end;");
        b.live(5);
        b.night(0, 0, NONE);
        b.mend(1);
        b.tray(0, 0, 3);
        b.tray(1, 1, 1);
        b.tray(2, 1, 9);
        for (int k = 0; k < 3; k++) {
            b.write(0, k, k);
            b.write(2, k, 2 - k);
        }
        b.write(1, 0, -7);
        b.write(2, 8, 3);
        b.shown(0, 4);
        b.stock(0, NONE, NONE);
        b.week(2, 0, NONE);
        b.mark();
        b.strike(1);
        b.print(0);
        b.night(2, 1, 1);
        feed(b, "stop; go;");
        b.nights(9);
        feed(b, NEXT_BOOK);
        return b;
    }

    private static DreamBook withoutDreams() {
        DreamBook b = new DreamBook();
        take(b, "thing a;person p;season s;rule ra of a means 5;rule rb of a means less 5;");
        feed(b, NEXT_BOOK);
        return b;
    }

    private static DreamBook withFullTape() {
        DreamBook b = new DreamBook();
        take(b, "thing a;person p;rule ra of a means 5;dream d a;");
        for (int i = 0; i < 3; i++) {
            b.night(0, 0, NONE);
            b.mark();
        }
        feed(b, stretched(NEXT_BOOK, "thing u;", MOST_BOOK));
        return b;
    }

    /** Sums of 9,999 and -9,999. */
    private static DreamBook withFarSums() {
        DreamBook b = new DreamBook();
        take(b, "thing a;thing b;person p;person w widow;rule r of a means 99;rule q of b means less 1;"
            + "dream six a a a a a a;dream five a a a a a;dream one a;dream down b;");
        for (int i = 0; i < 17; i++) {
            b.night(i < 16 ? 0 : 1, 0, NONE);
            b.print(0);
            b.night(i < 16 ? 0 : 1, 1, NONE);
            b.print(0);
        }
        feed(b, NEXT_BOOK);
        return b;
    }

    static void take(DreamBook b, String text) {
        feed(b, text);
        due("book " + text, b.book(text.length()) == NONE ? 1 : 0, 0);
    }

    static void takeNights(DreamBook b, String text) {
        feed(b, text);
        due("nights " + text, b.nights(text.length()) == NONE ? 1 : 0, 0);
    }

    // -------- looking an object through; it is of no use behind that

    static List<String> look(DreamBook b) {
        List<String> seen = new ArrayList<>();
        seen.add("fraction " + b.top() + " by " + b.bottom());
        seen.add("fault " + b.fault(0) + " at " + b.fault(1));
        lookAtTrays(b, seen);
        for (int k = 0; k < 4; k++) {
            seen.add("found " + b.foundAt(k));
        }
        seen.add("stock " + b.stockSet());
        for (int what = 0; what < 5; what++) {
            seen.add("lived " + b.lived(what));
        }
        lookAtWords(b, "told", seen);
        lookAtLife(b, "life", seen);
        seen.add("nights " + b.live(3));
        lookAtLife(b, "nights", seen);
        int fed = b.feed(0x20202020, 0x20202020, 0x20202020, 0x20202020, 0x20202020);
        seen.add("tape " + fed);
        seen.add("tape's book " + b.book(fed == NONE ? MOST_BOOK : fed));
        seen.add("tape's things " + b.many(0) + " rule " + b.rule(0, 1));
        for (int left = b.back(); left != NONE; left = b.back()) {
            seen.add("marks left " + left);
            lookAtWords(b, "marks", seen);
            lookAtLife(b, "marks", seen);
        }
        seen.add("marks none left");
        return seen;
    }

    private static void lookAtTrays(DreamBook b, List<String> seen) {
        for (int t = 0; t < 4; t++) {
            for (int k = 0; k < 10; k++) {
                seen.add("tray " + t + " place " + k + ": " + b.read(t, k) + " status " + b.status());
                if (b.status() != 0) {
                    break;
                }
            }
        }
    }

    private static void lookAtWords(DreamBook b, String first, List<String> seen) {
        for (int what = 0; what < 7; what++) {
            seen.add(first + " many " + what + " " + b.many(what));
        }
        for (int r = 0; r < b.many(3); r++) {
            for (int what = 0; what < 6; what++) {
                seen.add(first + " rule " + r + " " + what + " " + b.rule(r, what));
            }
            seen.add(first + " standing " + b.standing(r));
        }
        for (int p = 0; p < b.many(1); p++) {
            seen.add(first + " person " + b.person(p, 0));
        }
        for (int d = 0; d < b.many(5); d++) {
            seen.add(first + " dream " + b.dream(d, 0) + " " + b.dream(d, 1) + " " + b.dream(d, 2) + " first " + b.dreamAt(d, 0));
        }
        seen.add(first + " turns " + b.turns(0) + b.turns(1) + " notes " + b.note(0, 0) + b.note(0, 1) + b.note(1, 0));
    }

    private static void lookAtLife(DreamBook b, String first, List<String> seen) {
        for (int what = 7; what < 10; what++) {
            seen.add(first + " many " + what + " " + b.many(what));
        }
        for (int r = 0; r < b.many(3); r++) {
            seen.add(first + " rule " + r + " used " + b.rule(r, 6) + " worth " + b.rule(r, 7));
        }
        for (int p = 0; p < b.many(1); p++) {
            seen.add(first + " sum " + b.person(p, 1));
        }
        for (int d = 0; d < b.many(5); d++) {
            seen.add(first + " reading " + b.reading(d, NONE, NONE));
        }
    }

    /** Of the lines that stay, all are as they are in another object that was made likewise and not asked. */
    static void compare(String what, DreamBook asked, Supplier<DreamBook> made, Predicate<String> stays) {
        List<String> due = SEEN.computeIfAbsent(made, m -> look(m.get())).stream().filter(stays).toList();
        List<String> got = look(asked).stream().filter(stays).toList();
        for (int i = 0; i < due.size() || i < got.size(); i++) {
            String one = i < due.size() ? due.get(i) : "nothing";
            String other = i < got.size() ? got.get(i) : "nothing";
            if (!one.equals(other)) {
                due("behind " + what + " there is " + other + ", ahead of it " + one + ":", 1, 0);
                return;
            }
        }
    }
}
