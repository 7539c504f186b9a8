import java.io.IOException;
import java.lang.reflect.Method;
import java.lang.reflect.Modifier;
import java.nio.file.Files;
import java.nio.file.Path;
import java.util.ArrayList;
import java.util.LinkedHashMap;
import java.util.List;
import java.util.Map;
import java.util.Set;
import java.util.TreeSet;
import java.util.regex.Matcher;
import java.util.regex.Pattern;
import javax.tools.JavaCompiler;
import javax.tools.ToolProvider;

/**
 * What README.md shows as a use of the class is what the class answers. The shown lines are made a class,
 * README.md's own words, so that none of them stands here a second time.
 */
public final class ReadmeTests {
    private static final Path README = Path.of("README.md");
    private static final Path DOC = Path.of("../shared/DOC.md");
    private static final String REFUSALS = "UNKNOWN|BAD|LATE|FULL";
    private static final Pattern CALL = Pattern.compile("\\bx\\.\\w+\\(");
    private static final Pattern SHOWN = Pattern.compile("x\\.(\\w+)\\(.*\\);\\s*// (-?\\d+|" + REFUSALS + "|NONE)(?:: .+)?");

    private static final List<String> wrong = new ArrayList<>();
    private static final Set<String> shown = new TreeSet<>();
    private static int answers = 0;

    public static void main(String[] args) throws Exception {
        List<String> lines = Files.readAllLines(README);
        runShown(lines);
        checkConstants(lines);
        checkTable(lines);
        wrong.forEach(System.out::println);
        System.out.println(answers + " answers that README.md tells were asked for, " + wrong.size() + " faults");
        if (!wrong.isEmpty()) {
            System.exit(1);
        }
    }

    private static void fail(String why) {
        wrong.add("README.md: " + why);
    }

    /** The class that is made of README.md asks here. */
    public static void due(int line, String call, long got, long told) {
        answers++;
        if (got != told) {
            fail("line " + line + ": " + call + " answers " + got + ", told is " + told);
        }
    }

    // ---- the shown lines

    private static void runShown(List<String> lines) throws Exception {
        String source = sourceOf(lines);
        if (wrong.isEmpty() && compile(source)) {
            Class.forName("ReadmeUse").getMethod("run").invoke(null);
        }
    }

    /** A chapter's blocks are one run; a block of a static method is for all of them. */
    private static String sourceOf(List<String> lines) {
        StringBuilder helpers = new StringBuilder();
        StringBuilder runs = new StringBuilder();
        boolean isCode = false;
        boolean isHelper = false;
        for (int i = 0; i < lines.size(); i++) {
            String line = lines.get(i);
            if (line.startsWith("```")) {
                isCode = line.equals("```java");
                isHelper = isCode && i + 1 < lines.size() && lines.get(i + 1).startsWith("static ");
            } else if (isHelper) {
                helpers.append(line).append('\n');
            } else if (isCode) {
                runs.append(statement(i + 1, line)).append('\n');
            } else if (line.startsWith("## ")) {
                runs.append("}\n{\n");
            }
        }
        return "public final class ReadmeUse {\n" + helpers + "public static void run() {\n{\n" + runs + "}\n}\n}\n";
    }

    private static String statement(int number, String line) {
        // What a loop's calls answer is told behind it.
        if (!CALL.matcher(line).find() || line.startsWith("for ")) {
            return line;
        }
        Matcher told = SHOWN.matcher(line);
        if (!told.matches()) {
            fail("line " + number + " tells no answer: " + line);
            return line;
        }
        String asked = line.substring(0, line.indexOf(';'));
        String answer = told.group(2);
        boolean isName = Character.isLetter(answer.charAt(0));
        shown.add(told.group(1) + (isName ? " " + answer : ""));
        return "ReadmeTests.due(" + number + ", \"" + asked + "\", " + asked + ", "
            + (isName ? "OvensAbove." : "") + answer + ");";
    }

    private static boolean compile(String source) throws IOException {
        Path classes = Path.of(System.getProperty("java.class.path"));
        Path file = classes.resolve("ReadmeUse.java");
        Files.writeString(file, source);
        JavaCompiler javac = ToolProvider.getSystemJavaCompiler();
        boolean isCompiled = javac != null
            && javac.run(null, null, null, "-d", classes.toString(), "-cp", classes.toString(), file.toString()) == 0;
        if (!isCompiled) {
            fail("what is shown does not compile");
        }
        return isCompiled;
    }

    // ---- the tables

    private static void checkConstants(List<String> lines) throws ReflectiveOperationException {
        for (String name : (REFUSALS + "|NONE").split("\\|")) {
            int value = OvensAbove.class.getField(name).getInt(null);
            if (lines.stream().noneMatch(s -> s.matches("\\| `" + name + "` +\\| " + value + " .*"))) {
                fail(name + " is not told to be " + value);
            }
        }
    }

    /** Of each call the refusals are told, in their order, as the document has them, and each is shown. */
    private static void checkTable(List<String> lines) throws IOException {
        Map<String, String> due = promised();
        for (Method m : OvensAbove.class.getDeclaredMethods()) {
            if (Modifier.isPublic(m.getModifiers())) {
                String name = m.getName();
                List<String> rows = lines.stream().filter(s -> s.matches("\\| `" + name + "` +\\|.*")).toList();
                String told = rows.size() == 1 ? refusalsIn(rows.get(0)) : rows.size() + " rows";
                if (!told.equals(due.get(name))) {
                    fail(name + "'s row tells '" + told + "', due is '" + due.get(name) + "'");
                }
                checkShown(name, due.get(name));
            }
        }
    }

    private static void checkShown(String name, String refusals) {
        if (!shown.contains(name)) {
            fail("no answer of " + name + " is shown");
        }
        for (String refusal : refusals.split(" ")) {
            if (!refusal.isEmpty() && !shown.contains(name + " " + refusal)) {
                fail("no " + refusal + " of " + name + " is shown");
            }
        }
    }

    /** Each call's refusals by its promise; NONE, which is none of them, behind them. */
    private static Map<String, String> promised() throws IOException {
        Map<String, String> all = new LinkedHashMap<>();
        Matcher promise = Pattern.compile("## Promise \\d+: (\\w+)\\s+`[^`]*`:([^#]*)").matcher(Files.readString(DOC));
        while (promise.find()) {
            all.put(promise.group(1), refusalsIn(promise.group(2)));
        }
        return all;
    }

    private static String refusalsIn(String words) {
        StringBuilder found = new StringBuilder();
        Matcher name = Pattern.compile("\\b(?:" + REFUSALS + ")\\b").matcher(words);
        while (name.find()) {
            found.append(name.group()).append(' ');
        }
        return found + (words.matches("(?s).*\\bNONE\\b.*") ? "NONE" : "");
    }
}
