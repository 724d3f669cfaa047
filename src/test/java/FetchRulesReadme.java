import java.io.IOException;
import java.lang.reflect.Method;
import java.lang.reflect.Modifier;
import java.net.URL;
import java.net.URLClassLoader;
import java.nio.file.Files;
import java.nio.file.Path;
import java.util.ArrayList;
import java.util.Comparator;
import java.util.List;
import java.util.TreeSet;
import java.util.regex.Matcher;
import java.util.regex.Pattern;
import java.util.stream.Stream;

/** What README.md shows of the class is what the class answers, and the ways to run the tests that it names work. */
public final class FetchRulesReadme extends Checks {
    private static final Path README = Path.of("README.md");
    private static final String ALL_TESTS = ".ci/run";
    private static final String USES = "ReadmeUses";
    private static final int MOST_SAID = 500;
    // 'int a = x.place(0, 50);  // 0: the first' or 'x.offLine(true);'
    private static final Pattern LINE = Pattern.compile("(?:(int) (\\w+) = )?(x\\..+);(?:\\s+//\\s*(.*))?");
    private static final Pattern ANSWER = Pattern.compile("(-?\\d+|true|false)(?:: .*)?");
    private static final Pattern ROW = Pattern.compile("\\| `(\\w+)\\((.*?)\\)` \\| .+ \\|(?: `(.+)`)? \\|");

    private record Shown(String call, String answer) { }

    public static void main(String[] args) throws Exception {
        String text = Files.readString(README);
        Path folder = Files.createTempDirectory("readme");
        try {
            callsAnswerWhatStandsBehindThem(text, folder);
            tableNamesTheCallsOfTheClass(text);
            refusedCallsAnswerAsTheTableTells(text);
            testsRunAsTold(text, folder);
            testsAreNamed(text);
        } finally {
            delete(folder);
        }
        end();
    }

    private static List<String> blocks(String text, String kind) {
        List<String> found = new ArrayList<>();
        Matcher block = Pattern.compile("(?s)\n```" + kind + "\n(.*?)\n```\n").matcher(text);
        while (block.find()) {
            found.add(block.group(1));
        }
        return found;
    }

    // ---- the uses that are shown

    private static void callsAnswerWhatStandsBehindThem(String text, Path folder) throws Exception {
        heldTo = "README.md, how to use it";
        List<List<Shown>> shown = new ArrayList<>();
        StringBuilder methods = new StringBuilder();
        for (String use : blocks(text, "java")) {
            methods.append(method("use" + shown.size(), use, shown));
        }
        due("uses are shown", !shown.isEmpty(), true);
        compile(USES, methods.toString(), folder);
        try (URLClassLoader loader = new URLClassLoader(new URL[] {folder.toUri().toURL()})) {
            Class<?> uses = loader.loadClass(USES);
            for (int i = 0; i < shown.size(); i++) {
                heldTo = "README.md, use " + (i + 1);
                compare((List<?>) uses.getMethod("use" + i).invoke(null), shown.get(i));
            }
        }
    }

    private static void compare(List<?> answers, List<Shown> shown) {
        due("how many calls answered", answers.size(), shown.size());
        for (int i = 0; i < answers.size(); i++) {
            dueText(shown.get(i).call(), answers.get(i), shown.get(i).answer());
        }
    }

    private static String method(String name, String use, List<List<Shown>> shown) {
        List<Shown> ofThis = new ArrayList<>();
        shown.add(ofThis);
        return "public static java.util.List<Object> " + name + "() {\n"
            + "java.util.List<Object> answers = new java.util.ArrayList<>();\n" + lines(use, ofThis)
            + "return answers;\n}\n";
    }

    /** The lines of a use, with each answer that has one behind it put into a list. */
    private static String lines(String use, List<Shown> shown) {
        StringBuilder lines = new StringBuilder();
        for (String line : use.split("\n")) {
            Matcher parts = LINE.matcher(line);
            if (!parts.matches()) {
                // The line that makes the object has no answer.
                due("'" + line + "' can be looked at", line.startsWith("FetchRules x = new FetchRules("), true);
                lines.append(line).append('\n');
                continue;
            }
            String call = parts.group(3);
            Matcher answer = ANSWER.matcher(parts.group(4) == null ? "" : parts.group(4));
            if (!answer.matches()) {
                due(call + " has an answer behind it", call.startsWith("x.offLine("), true);
                lines.append(line).append('\n');
                continue;
            }
            shown.add(new Shown(call, answer.group(1)));
            if (parts.group(2) == null) {
                lines.append("answers.add(").append(call).append(");\n");
            } else {
                lines.append(line).append("\nanswers.add(").append(parts.group(2)).append(");\n");
            }
        }
        return lines.toString();
    }

    private static void compile(String name, String methods, Path folder) throws Exception {
        Path file = folder.resolve(name + ".java");
        Files.writeString(file, "public final class " + name + " {\n" + methods + "}\n");
        goesWell("javac of what is shown", folder, "javac", "--release", "17", "-cp",
            System.getProperty("java.class.path"), "-d", folder.toString(), file.toString());
    }

    /** A command ends with exit code 0; the beginning of what it said. */
    private static String goesWell(String what, Path folder, String... command) throws Exception {
        ProcessBuilder builder = new ProcessBuilder(command);
        // What a command leaves behind goes with the folder.
        builder.environment().put("TMPDIR", folder.toString());
        builder.redirectErrorStream(true);
        Process process = builder.start();
        process.getOutputStream().close();
        String said = new String(process.getInputStream().readAllBytes()).strip();
        said = said.substring(0, Math.min(said.length(), MOST_SAID));
        due(what + " said '" + said + "' and by its exit code", process.waitFor(), 0);
        return said;
    }

    // ---- the table of calls

    private static void tableNamesTheCallsOfTheClass(String text) {
        heldTo = "README.md, the calls";
        TreeSet<String> named = new TreeSet<>();
        Matcher row = ROW.matcher(text);
        while (row.find()) {
            named.add(row.group(1) + " of " + row.group(2).split(",").length);
        }
        TreeSet<String> there = new TreeSet<>();
        for (Method method : publicMethods()) {
            there.add(method.getName() + " of " + method.getParameterCount());
        }
        dueText("the table", named, there);
    }

    /** With -7 for each number nothing can be done, but for a want: of these there are ten, so that one more can't be. */
    private static void refusedCallsAnswerAsTheTableTells(String text) throws Exception {
        FetchRules x = new FetchRules(0);
        for (int i = 0; i < 10; i++) {
            x.want(i);
        }
        Matcher row = ROW.matcher(text);
        while (row.find()) {
            for (Method method : publicMethods()) {
                if (method.getName().equals(row.group(1))) {
                    // A call without an answer has none in the table either.
                    dueText(method.getName(), method.invoke(x, wrongArguments(method)), row.group(3));
                }
            }
        }
    }

    private static List<Method> publicMethods() {
        return Stream.of(FetchRules.class.getDeclaredMethods())
            .filter(method -> Modifier.isPublic(method.getModifiers())).toList();
    }

    private static Object[] wrongArguments(Method method) {
        Class<?>[] types = method.getParameterTypes();
        Object[] arguments = new Object[types.length];
        for (int i = 0; i < types.length; i++) {
            if (types[i] == boolean.class) {
                arguments[i] = true;
            } else if (types[i] == long.class) {
                arguments[i] = -7L;
            } else {
                arguments[i] = -7;
            }
        }
        return arguments;
    }

    // ---- the tests

    /** The way to run all of them is not gone here: it is the one by which this test runs. */
    private static void testsRunAsTold(String text, Path folder) throws Exception {
        heldTo = "README.md, how to run its tests";
        List<String> ways = blocks(text, "sh");
        due("two ways are told", ways.size(), 2);
        dueText("the first", ways.get(0), ALL_TESTS);
        due(ALL_TESTS + " can be run", Files.isExecutable(Path.of(ALL_TESTS)), true);
        for (String way : ways.subList(1, ways.size())) {
            String said = goesWell("one test alone", folder, "sh", "-e", "-c", way);
            due("it looks at answers", said.contains("answers are as due"), true);
        }
    }

    private static void testsAreNamed(String text) throws IOException {
        heldTo = "README.md, the tests of the project";
        TreeSet<String> named = new TreeSet<>();
        Matcher item = Pattern.compile("`(FetchRules\\w+|Checks|Twins|Model)`").matcher(text);
        while (item.find()) {
            named.add(item.group(1));
        }
        TreeSet<String> there = new TreeSet<>();
        try (Stream<Path> files = Files.walk(Path.of("src/test"))) {
            files.map(file -> file.getFileName().toString()).filter(name -> name.endsWith(".java"))
                .forEach(name -> there.add(name.replace(".java", "")));
        }
        dueText("those that it names", named, there);
    }

    private static void delete(Path folder) throws IOException {
        try (Stream<Path> files = Files.walk(folder)) {
            for (Path file : files.sorted(Comparator.reverseOrder()).toList()) {
                Files.delete(file);
            }
        }
    }
}
