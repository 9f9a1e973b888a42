import java.lang.reflect.Constructor;
import java.lang.reflect.Field;
import java.lang.reflect.InvocationTargetException;
import java.lang.reflect.Method;
import java.lang.reflect.Modifier;
import java.nio.charset.StandardCharsets;
import java.nio.file.Files;
import java.nio.file.Path;
import java.util.ArrayList;
import java.util.Arrays;
import java.util.List;
import java.util.Random;
import java.util.TreeSet;

/** The class has the document's face and no other; its text keeps to the words of LANGUAGE.md; no call throws. */
public final class DreamBookFace {
    private static final String[] FACE = {
        "int status()", "long top()", "long bottom()", "boolean tray(int,int,int)", "boolean write(int,int,long)", "long read(int,int)",
        "boolean pour(int,int,int,int,int)", "int feed(int,int,int,int,int)", "int book(int)", "int nights(int)", "int fault(int)",
        "int many(int)", "int rule(int,int)", "int person(int,int)", "int turns(int)", "int note(int,int)", "int dream(int,int)",
        "int dreamAt(int,int)", "int copyDream(int,int)", "int standing(int)", "int stables()", "int stable(int)", "int strikes(int,int)",
        "boolean strike(int)", "boolean mend(int)", "int print(int)", "int reading(int,int,int)", "int readRow(int,int,int,int)",
        "int ruleAt(int,int,int,int)", "int valueAt(int,int,int,int)", "int night(int,int,int)", "int counting(int,int,int)", "int idle()",
        "int mostUsed()", "int quarrel(int,int)", "int quarrels()", "int shown(int,int)", "int foundAt(int)", "int fewest()",
        "int fewestSet()", "int shortest(int,int,int)", "int rows(int,int,int,int)", "int lucky()", "int stock(int,int,int)",
        "int stockSet()", "int whose(int,int,int)", "int when(int,int,int)", "int twin(int)", "int bargain(int,int)",
        "boolean week(int,int,int)", "boolean atLeast(int,int,int,int)", "int live(int)", "int lived(int)", "boolean mean(int,int,int)",
        "int mark()", "int back()"};

    private static int wrong = 0;

    public static void main(String[] args) throws Exception {
        checkFace();
        checkInside();
        checkText();
        callWildly();
        System.out.println(wrong == 0 ? "the face is the document's, and no call throws" : wrong + " faults of the face");
        if (wrong != 0) {
            System.exit(1);
        }
    }

    private static void expect(String what, boolean holds) {
        if (!holds) {
            wrong++;
            System.out.println("not so: " + what);
        }
    }

    private static String told(Method m) {
        StringBuilder types = new StringBuilder();
        for (Class<?> c : m.getParameterTypes()) {
            types.append(types.length() == 0 ? "" : ",").append(c.getName());
        }
        return m.getReturnType().getName() + " " + m.getName() + "(" + types + ")";
    }

    private static void checkFace() {
        expect("public final", Modifier.isPublic(DreamBook.class.getModifiers()) && Modifier.isFinal(DreamBook.class.getModifiers()));
        TreeSet<String> open = new TreeSet<>();
        TreeSet<String> names = new TreeSet<>();
        for (Method m : DreamBook.class.getDeclaredMethods()) {
            if (!Modifier.isPrivate(m.getModifiers())) {
                open.add(told(m));
                names.add(m.getName());
                expect("public: " + told(m), Modifier.isPublic(m.getModifiers()) && !Modifier.isStatic(m.getModifiers()));
            }
        }
        expect("the face: " + open, open.equals(new TreeSet<>(Arrays.asList(FACE))));
        for (Method m : DreamBook.class.getDeclaredMethods()) {
            expect("no public name: " + told(m), Modifier.isPublic(m.getModifiers()) || !names.contains(m.getName()));
        }
        Constructor<?>[] makers = DreamBook.class.getDeclaredConstructors();
        expect("one constructor", makers.length == 1 && Modifier.isPublic(makers[0].getModifiers()) && makers[0].getParameterCount() == 0);
        for (Field f : DreamBook.class.getDeclaredFields()) {
            expect("private: " + f.getName(), Modifier.isPrivate(f.getModifiers()) || f.getName().equals("NONE"));
        }
    }

    private static void checkInside() {
        Class<?>[] inside = DreamBook.class.getDeclaredClasses();
        expect("at most twelve classes", inside.length < 12);
        for (Class<?> c : inside) {
            expect("static, not public: " + c, Modifier.isStatic(c.getModifiers()) && !Modifier.isPublic(c.getModifiers()) && !Modifier.isProtected(c.getModifiers()));
            checkFields(c);
            for (Method m : c.getDeclaredMethods()) {
                expect("at most seven parameters: " + m, m.getParameterCount() <= 7);
                expect("no public name: " + m, !Modifier.isPrivate(m.getModifiers()) || Arrays.stream(FACE).noneMatch(f -> f.contains(" " + m.getName() + "(")));
            }
        }
        checkFields(DreamBook.class);
    }

    private static void checkFields(Class<?> c) {
        int own = 0;
        for (Field f : c.getDeclaredFields()) {
            if (Modifier.isStatic(f.getModifiers())) {
                expect("final: " + f, Modifier.isFinal(f.getModifiers()));
            } else {
                own++;
            }
        }
        expect("some twenty fields: " + c + " has " + own, own <= 20);
    }

    private static void checkText() throws Exception {
        String text = Files.readString(Path.of("src/main/java/DreamBook.java"), StandardCharsets.ISO_8859_1);
        String code = text.replaceAll("(?s)/\\*.*?\\*/", "").replaceAll("//[^\n]*", "").replaceAll("\"[^\"\n]*\"", "\"\"");
        for (String word : List.of("throw", "throws", "try", "catch", "synchronized", "assert", "package", "protected", "float", "double",
            "instanceof", "volatile", "transient", "native", "Exception", "Error", "Object", "equals", "hashCode", "toString", "println")) {
            expect("without " + word, !code.matches("(?s).*\\b" + word + "\\b.*"));
        }
        expect("no lambda, no method reference", !code.contains("->") && !code.contains("::"));
        expect("no Exact", !code.contains("Exact("));
        expect("one import", code.split("\\bimport\\b", -1).length == 2 && code.contains("import java.util.Arrays;"));
        expect("signs of 1 to 127", text.chars().allMatch(c -> c >= 1 && c <= 127));
        checkLengths(text.split("\n", -1));
    }

    /** A method's head and its last line stand as far in as each other. */
    private static void checkLengths(String[] lines) {
        int methods = 0;
        for (int i = 0; i < lines.length; i++) {
            if (lines[i].matches("( {4}| {8})[A-Za-z].*\\) \\{")) {
                String last = lines[i].replaceAll("\\S.*", "") + "}";
                int end = i + 1;
                while (end < lines.length && !lines[end].equals(last)) {
                    end++;
                }
                methods++;
                expect("some sixty lines: " + lines[i].trim(), end - i < 60);
            }
        }
        expect("methods were found: " + methods, methods > 150);
    }

    // -------- no call throws, whatever it is called with

    private static final String[] TEXTS = {
        "", "thing a;", "person p;season s;", "thing a;thing b;person p;person w widow;season s turns;rule r of a means 9 by b;"
            + "rule q of b means less 4 unless a for w in s;rule o of a means 0;note r strikes q;note q strikes o;dream d a b a b a b costs 99 chance 99;dream e b;",
        "any for p;loop 99;night d for p in s;end;", "loop 99;loop 99;loop 99;end;end;end;", "when sum p < less 9999;end;stop;", "strike r;print r;", "end;", "thing"};

    private static void feed(DreamBook x, String text) {
        for (int i = 0; i < text.length(); i += 20) {
            int[] v = new int[5];
            for (int j = 0; j < 20; j++) {
                v[j / 4] = v[j / 4] << 8 | (i + j < text.length() ? text.charAt(i + j) & 255 : ' ');
            }
            x.feed(v[0], v[1], v[2], v[3], v[4]);
        }
    }

    private static void callWildly() throws Exception {
        Random random = new Random(5);
        List<Method> face = new ArrayList<>();
        for (Method m : DreamBook.class.getDeclaredMethods()) {
            if (Modifier.isPublic(m.getModifiers())) {
                face.add(m);
            }
        }
        face.sort((a, b) -> a.getName().compareTo(b.getName()));
        for (int run = 0; run < 1500; run++) {
            DreamBook x = new DreamBook();
            for (int call = 0; call < 100; call++) {
                if (random.nextInt(15) == 0) {
                    String text = TEXTS[random.nextInt(TEXTS.length)];
                    feed(x, text);
                    if (random.nextBoolean()) {
                        x.book(text.length());
                    } else {
                        x.nights(text.length());
                    }
                }
                wildCall(x, face.get(random.nextInt(face.size())), random);
            }
        }
    }

    private static void wildCall(DreamBook x, Method m, Random random) throws Exception {
        int[] wild = {Integer.MIN_VALUE, Integer.MIN_VALUE + 1, -1000, -2, -1, 0, 0, 1, 1, 2, 3, 8, 9, 12, 31, 32, 60, 300, 900, 999, 9999, Integer.MAX_VALUE - 1, Integer.MAX_VALUE};
        Object[] given = new Object[m.getParameterCount()];
        for (int i = 0; i < given.length; i++) {
            int v = random.nextBoolean() ? random.nextInt(4) - 1 : wild[random.nextInt(wild.length)];
            if (m.getParameterTypes()[i] == long.class) {
                given[i] = random.nextBoolean() ? random.nextLong() : (long) v;
            } else {
                given[i] = v;
            }
        }
        try {
            Object answer = m.invoke(x, given);
            int status = x.status();
            expect("a status: " + status, status >= 0 && status <= 11);
            boolean silent = List.of("status", "fault", "feed", "top", "bottom").contains(m.getName());
            if (!silent && status != 0) {
                boolean none = answer instanceof Boolean ? !(Boolean) answer : ((Number) answer).longValue() == DreamBook.NONE;
                expect("NONE or false with status " + status + ": " + m.getName(), none);
            }
            expect("a divisor above 0", x.bottom() > 0);
        } catch (InvocationTargetException e) {
            expect(m.getName() + Arrays.toString(given) + " throws " + e.getCause(), false);
        }
    }
}
