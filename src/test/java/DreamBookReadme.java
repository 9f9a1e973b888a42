import java.io.File;
import java.nio.charset.StandardCharsets;
import java.nio.file.Files;
import java.nio.file.Path;
import java.util.ArrayList;
import java.util.List;
import java.util.regex.Matcher;
import java.util.regex.Pattern;

/** The example of README.md is compiled as it stands there and run: it prints what the notes beside its lines say. */
public final class DreamBookReadme {
    public static void main(String[] args) throws Exception {
        String page = Files.readString(Path.of("README.md"), StandardCharsets.UTF_8);
        String example = between(page, "```java\n", "```");
        List<String> due = told(example);
        List<String> got = printedBy(example);
        int wrong = due.size() < 20 ? 1 : 0;
        for (int i = 0; i < Math.max(due.size(), got.size()); i++) {
            String one = i < due.size() ? due.get(i) : "nothing";
            String other = i < got.size() ? got.get(i) : "nothing";
            if (!one.equals(other)) {
                wrong++;
                System.out.println("README.md, line " + (i + 1) + " of what is printed: " + other + ", due is " + one);
            }
        }
        System.out.println(wrong == 0 ? "the example of README.md is right" : "the example of README.md is wrong");
        if (wrong != 0) {
            System.exit(1);
        }
    }

    private static String between(String page, String ahead, String behind) {
        int from = page.indexOf(ahead) + ahead.length();
        return page.substring(from, page.indexOf(behind, from));
    }

    /** The first word of each note beside a line that prints. */
    private static List<String> told(String example) {
        List<String> due = new ArrayList<>();
        Matcher m = Pattern.compile("println\\(.*\\);\\s*// ([-\\w]+)").matcher(example);
        while (m.find()) {
            due.add(m.group(1));
        }
        return due;
    }

    private static List<String> printedBy(String example) throws Exception {
        Path place = Files.createTempDirectory("readme");
        Path file = place.resolve("Example.java");
        Files.writeString(file, example);
        String known = System.getProperty("java.class.path");
        run("javac", "-cp", known, "-d", place.toString(), file.toString());
        List<String> printed = run("java", "-cp", known + File.pathSeparator + place, "Example");
        Files.deleteIfExists(place.resolve("Example.class"));
        Files.deleteIfExists(file);
        Files.deleteIfExists(place);
        return printed;
    }

    private static List<String> run(String... command) throws Exception {
        Process process = new ProcessBuilder(command).redirectError(ProcessBuilder.Redirect.INHERIT).start();
        String printed = new String(process.getInputStream().readAllBytes(), StandardCharsets.UTF_8);
        return process.waitFor() == 0 ? printed.lines().toList() : List.of(command[0] + " failed");
    }
}
