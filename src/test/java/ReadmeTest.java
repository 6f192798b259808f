import java.io.IOException;
import java.lang.reflect.Method;
import java.lang.reflect.Modifier;
import java.nio.charset.StandardCharsets;
import java.nio.file.Files;
import java.nio.file.Path;
import java.util.ArrayList;
import java.util.List;
import java.util.Set;
import java.util.TreeSet;
import java.util.regex.Matcher;
import java.util.regex.Pattern;

/** What README.md tells of the class: its example answers what stands beside it, and its tables name each call. */
public final class ReadmeTest {
    private static final Path README = Path.of("README.md");
    private static final Path SELF = Path.of("src/test/java/ReadmeTest.java");

    public static void main(String[] args) throws IOException {
        String readme = Files.readString(README, StandardCharsets.UTF_8);
        exampleHolds(readme);
        Check.same("the example of README.md", example(readme),
                between(Files.readString(SELF, StandardCharsets.UTF_8), "        // the example of README.md\n",
                "        // its end\n").replaceAll("(?m)^ {8}", ""));
        tablesTellTheFace(readme);
        Check.end();
    }

    private static void exampleHolds(String readme) {
        // the example of README.md
        PassDesk desk = new PassDesk();
        int north = desk.addAntenna(3, 5, 10);
        int south = desk.addAntenna(1, 0, 20);
        int bird = desk.addSatellite(0, 3, 4, 200);
        int first = desk.addPass(bird, north, 10, 30);
        int second = desk.addPass(bird, south, 26, 40);
        int third = desk.addPass(bird, north, 32, 50);
        boolean conflict = desk.isConflict(first, third);
        int best = desk.best();
        int weight = desk.weight(best);
        int taken = desk.take(best);
        int start = desk.pass(second, 7);
        int cameDown = desk.run(40);
        int full = desk.satellite(bird, 3);
        int more = desk.run(60);
        int lost = desk.satellite(bird, 1);
        double share = desk.share();
        // its end
        answers(readme, "conflict", String.valueOf(conflict));
        answers(readme, "best", String.valueOf(best));
        answers(readme, "weight", String.valueOf(weight));
        answers(readme, "taken", String.valueOf(taken));
        answers(readme, "start", String.valueOf(start));
        answers(readme, "cameDown", String.valueOf(cameDown));
        answers(readme, "full", String.valueOf(full));
        answers(readme, "more", String.valueOf(more));
        answers(readme, "lost", String.valueOf(lost));
        answers(readme, "share", String.valueOf(share));
    }

    /** The answer that begins the comment behind the line. */
    private static void answers(String readme, String name, String got) {
        Matcher line = Pattern.compile("(?m)^\\w+ " + name + " = .*; *// ([^\\s:]+)(:|$)").matcher(readme);
        Check.same(name, got, line.find() ? line.group(1) : "what README.md does not tell");
    }

    /** The README's lines of Java without their comments. */
    private static String example(String readme) {
        return between(readme, "```java\n", "```\n").replaceAll(" *//[^\n]*", "");
    }

    private static String between(String text, String begin, String end) {
        int from = text.indexOf(begin);
        int to = text.indexOf(end, from + begin.length());
        return from < 0 || to < 0 ? "" : text.substring(from + begin.length(), to);
    }

    private static void tablesTellTheFace(String readme) {
        Set<String> told = new TreeSet<>();
        Matcher row = Pattern.compile("(?m)^\\| `(\\w+)\\(([^)]*)\\)` \\|.*\\| (.*) \\|$").matcher(readme);
        while (row.find()) {
            int parameters = row.group(2).isEmpty() ? 0 : row.group(2).split(",").length;
            told.add(row.group(1) + "/" + parameters + " " + exceptionsOf(row.group(3)));
        }
        Set<String> due = new TreeSet<>();
        for (Method method : PassDesk.class.getDeclaredMethods()) {
            if (Modifier.isPublic(method.getModifiers())) {
                List<String> names = new ArrayList<>();
                for (Class<?> type : method.getExceptionTypes()) {
                    names.add(type.getSimpleName());
                }
                due.add(method.getName() + "/" + method.getParameterCount() + " " + names);
            }
        }
        Check.same("the tables of README.md", String.join("\n", told), String.join("\n", due));
    }

    private static List<String> exceptionsOf(String cell) {
        List<String> names = new ArrayList<>();
        Matcher name = Pattern.compile("`(\\w+Exception)`: ").matcher(cell);
        while (name.find()) {
            names.add(name.group(1));
        }
        return names;
    }
}
