import java.io.File;
import java.io.IOException;
import java.lang.reflect.Method;
import java.lang.reflect.Modifier;
import java.net.URL;
import java.net.URLClassLoader;
import java.nio.file.Files;
import java.nio.file.Path;
import java.util.ArrayList;
import java.util.Arrays;
import java.util.List;
import java.util.regex.Matcher;
import java.util.regex.Pattern;
import javax.tools.JavaCompiler;
import javax.tools.ToolProvider;

/** What README.md says is so. */
public final class ReadmeTest {
    private static final Pattern CALL = Pattern.compile("(.+?);\\s+// (-?\\d+|[A-Z]+)\\b.*");
    private static final Path TESTS = Path.of("src/test/java");
    private static final Checks C = new Checks("ReadmeTest");

    public static void main(String[] args) throws Exception {
        String readme = Files.readString(Path.of("README.md"));
        Path out = Files.createTempDirectory("readme");
        try {
            examples(readme, out);
            wayToRunOneTest(readme, out);
        } finally {
            remove(out.toFile());
        }
        wayToRunAllTests(readme);
        answersBelowZero(readme);
        eachMethodIsTold(readme);
        eachTestIsTold(readme);
        C.finish();
    }

    private static List<String> blocks(String readme, String language) {
        List<String> blocks = new ArrayList<>();
        Matcher found = Pattern.compile("(?s)```" + language + "\n(.*?)```").matcher(readme);
        while (found.find()) {
            blocks.add(found.group(1));
        }
        return blocks;
    }

    /** All Java on the page is made one program; each of its calls has its answer behind it. */
    private static void examples(String readme, Path out) throws Exception {
        C.sentence("its example answers what it says");
        StringBuilder members = new StringBuilder();
        StringBuilder body = new StringBuilder();
        List<String> calls = new ArrayList<>();
        List<Integer> want = new ArrayList<>();
        for (String block : blocks(readme, "java")) {
            if (block.startsWith("static ")) {
                members.append(block);
                continue;
            }
            for (String line : block.split("\n")) {
                Matcher call = CALL.matcher(line);
                if (call.matches()) {
                    calls.add(call.group(1));
                    want.add(number(call.group(2)));
                    body.append("got.add(").append(call.group(1)).append(");\n");
                } else {
                    C.due("'" + line + "' has no answer, and makes an object", line.equals("TriggerLoom x = new TriggerLoom();") ? 1 : 0, 1);
                    body.append(line).append('\n');
                }
            }
        }
        List<?> got = answers(members, body, out);
        C.due("calls", got.size(), calls.size());
        for (int i = 0; i < got.size(); i++) {
            C.due("call " + i + ", " + calls.get(i), (Integer) got.get(i), want.get(i));
        }
        for (String said : new String[] {"feed(", "x.read(", "x.sample(", "x.holds(", "x.when("}) {
            C.due("an example of " + said, calls.stream().anyMatch(call -> call.startsWith(said)) ? 1 : 0, 1);
        }
    }

    private static int number(String answer) throws ReflectiveOperationException {
        return Character.isLetter(answer.charAt(0)) ? TriggerLoom.class.getField(answer).getInt(null) : Integer.parseInt(answer);
    }

    private static List<?> answers(CharSequence members, CharSequence body, Path out) throws Exception {
        Path file = out.resolve("ReadmeExample.java");
        Files.writeString(file, "public final class ReadmeExample {\n" + members
                + "public static java.util.List<Integer> answers() {\njava.util.List<Integer> got = new java.util.ArrayList<>();\n"
                + body + "return got;\n}\n}\n");
        JavaCompiler javac = ToolProvider.getSystemJavaCompiler();
        int status = javac.run(null, null, null, "--release", "17", "-cp", System.getProperty("java.class.path"),
                "-d", out.toString(), file.toString());
        C.due("compiling the examples", status, 0);
        if (status != 0) {
            return List.of();
        }
        try (URLClassLoader loader = new URLClassLoader(new URL[] {out.toUri().toURL()})) {
            return (List<?>) loader.loadClass("ReadmeExample").getMethod("answers").invoke(null);
        }
    }

    private static void wayToRunAllTests(String readme) {
        C.sentence("its way to run the tests runs them");
        C.due("the first way is .ci/run", blocks(readme, "sh").get(0).equals(".ci/run\n") ? 1 : 0, 1);
        C.due("which can be executed", Files.isExecutable(Path.of(".ci/run")) ? 1 : 0, 1);
    }

    /** Runs what the page says, line by line, in a shell. */
    private static void wayToRunOneTest(String readme, Path out) throws IOException, InterruptedException {
        C.sentence("its way to run the tests runs them");
        List<String> ways = blocks(readme, "sh");
        C.due("two ways", ways.size(), 2);
        ProcessBuilder shell = new ProcessBuilder("bash", "-e", "-c", ways.get(1)).redirectErrorStream(true);
        shell.environment().put("TMPDIR", out.toString());
        Process process = shell.start();
        String told = new String(process.getInputStream().readAllBytes());
        C.due("one test alone", process.waitFor(), 0);
        C.due("its last line, of '" + told + "'", told.trim().matches("Promise 4: .* answers as due, 0 not") ? 1 : 0, 1);
    }

    private static void answersBelowZero(String readme) throws ReflectiveOperationException {
        C.sentence("what the answers below 0 mean");
        String[] names = {"UNKNOWN", "BAD", "STATE", "FULL", "CAST", "NONE"};
        for (String name : names) {
            String row = "| `" + name + "` | " + number(name) + " | ";
            C.due("the row '" + row + "'", readme.contains(row) ? 1 : 0, 1);
        }
        C.due("rows", Pattern.compile("(?m)^\\| `[A-Z]+` \\| -").matcher(readme).results().count(), names.length);
    }

    private static void eachMethodIsTold(String readme) {
        C.sentence("how to use the class");
        for (Method method : TriggerLoom.class.getDeclaredMethods()) {
            if (Modifier.isPublic(method.getModifiers())) {
                boolean told = Pattern.compile("\\b" + method.getName() + "\\(").matcher(readme).find();
                C.due("whether " + method.getName() + " is told", told ? 1 : 0, 1);
            }
        }
    }

    private static void eachTestIsTold(String readme) {
        C.sentence("how to run its tests");
        Matcher named = Pattern.compile("`(\\w+Test|Checks|Looms|Model)`").matcher(readme);
        while (named.find()) {
            C.due(named.group(1) + " is there", Files.exists(TESTS.resolve(named.group(1) + ".java")) ? 1 : 0, 1);
        }
        String[] files = TESTS.toFile().list();
        C.due("the tests can be told", files == null ? 0 : 1, 1);
        for (String file : files == null ? new String[0] : files) {
            String name = file.replace(".java", "");
            // The page tells these by the first and the last of them.
            boolean oneOfMany = name.matches("Promise(0[1-9]|1\\d|2[0-4])Test|Terms[1-4]Test");
            C.due(name + " is told", oneOfMany || readme.contains("`" + name + "`") ? 1 : 0, 1);
        }
    }

    private static void remove(File file) {
        File[] within = file.listFiles();
        if (within != null) {
            Arrays.stream(within).forEach(ReadmeTest::remove);
        }
        file.delete();
    }
}
