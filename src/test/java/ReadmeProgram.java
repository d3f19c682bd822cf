import java.io.IOException;
import java.lang.reflect.Method;
import java.lang.reflect.Modifier;
import java.nio.file.Files;
import java.nio.file.Path;
import java.util.Set;
import java.util.TreeSet;
import java.util.regex.Matcher;
import java.util.regex.Pattern;

/** Prints the java blocks of README.md as a test: each call there must answer what stands behind it. */
public final class ReadmeProgram {
    /** A call, its answer behind "//", and perhaps ": " and words. */
    private static final Pattern ANSWERED =
        Pattern.compile("(?:int (\\w+) = )?(\\w+\\.(\\w+)\\(.*\\));\\s+// (throws \\w+|'.'|[^:\\s]+)(: .*)?");

    private final StringBuilder body = new StringBuilder();
    private final Set<String> notShown = new TreeSet<>();
    private boolean inBlock;

    private ReadmeProgram() {
        for (Method method : BeaverPond.class.getDeclaredMethods()) {
            if (Modifier.isPublic(method.getModifiers())) {
                notShown.add(method.getName());
            }
        }
    }

    public static void main(String[] args) throws IOException {
        ReadmeProgram program = new ReadmeProgram();
        int number = 0;
        for (String line : Files.readAllLines(Path.of("README.md"))) {
            number++;
            program.take(number, line);
        }
        if (program.inBlock || !program.notShown.isEmpty()) {
            System.err.println("README.md has an open block, or shows no answer of " + program.notShown);
            System.exit(1);
        }
        System.out.println("public final class ReadmeTest {\n    public static void main(String[] args) {\n"
            + program.body + "        Due.end(\"ReadmeTest\");\n    }\n}");
    }

    private void take(int number, String line) {
        if (line.startsWith("```")) {
            inBlock = line.equals("```java");
        } else if (inBlock && line.contains("//")) {
            takeAnswered(number, line);
        } else if (inBlock) {
            add(line);
        }
    }

    private void takeAnswered(int number, String line) {
        Matcher told = ANSWERED.matcher(line);
        if (!told.matches()) {
            System.err.println("README.md:" + number + " tells no answer of a call: " + line);
            System.exit(1);
        }
        String name = told.group(1);
        String call = told.group(2);
        notShown.remove(told.group(3));
        String want = told.group(4).startsWith("throws ") ? quoted(told.group(4)) : told.group(4);
        String what = quoted("README.md:" + number + " " + call);
        if (name == null) {
            add("Due.is(" + want + ", " + what + ", () -> " + call + ");");
        } else {
            add("int " + name + " = " + call + ";");
            add("Due.same(" + want + ", " + what + ", " + name + ");");
        }
    }

    private void add(String line) {
        body.append("        ").append(line).append('\n');
    }

    private static String quoted(String text) {
        return '"' + text.replace("\\", "\\\\").replace("\"", "\\\"") + '"';
    }
}
