import java.io.File;
import java.io.IOException;
import java.lang.reflect.Method;
import java.lang.reflect.Modifier;
import java.nio.file.Files;
import java.nio.file.Path;
import java.nio.file.Paths;
import java.util.ArrayList;
import java.util.Comparator;
import java.util.List;
import java.util.Set;
import java.util.TreeSet;
import java.util.regex.Matcher;
import java.util.regex.Pattern;
import java.util.stream.Stream;

/** What README.md says, done word for word. */
public final class ReadmeTest {
    private static final int USE = 0, ALL_TESTS = 1, ONE_TEST = 2;

    public static void main(String[] args) throws Exception {
        String readme = textOf("README.md");
        List<String> commands = blocks(readme, "sh");
        same("the program", textOf("examples/Example.java"), blocks(readme, "java").get(0));
        same("what it prints", blocks(readme, "text").get(0), run(commands.get(USE)));
        same("all tests", ".ci/run\n", commands.get(ALL_TESTS));
        // to run it from here would run this test again
        Due.is(".ci/run can be run", 1, new File(".ci/run").canExecute() ? 1 : 0);
        Due.is("one test ends well", 1, run(commands.get(ONE_TEST)).endsWith(" answers as due, 0 not\n") ? 1 : 0);
        same("the calls", callsOfTheClass().toString(), callsIn(readme).toString());
        answers(readme);
        same("the tests", testsThatAre().toString(), namesIn(readme, "(?m)^\\| `(\\w+Test)` \\|").toString());
        Due.end();
    }

    private static void same(String what, String want, String got) {
        if (!want.equals(got)) {
            System.out.println("due is\n" + want + "\ngot is\n" + got);
        }
        Due.is(what + " as told", 1, want.equals(got) ? 1 : 0);
    }

    private static String textOf(String file) throws IOException {
        return new String(Files.readAllBytes(Paths.get(file)), "ISO-8859-1");
    }

    private static List<String> blocks(String readme, String language) {
        List<String> blocks = new ArrayList<>();
        Matcher m = Pattern.compile("(?ms)^```" + language + "\n(.*?)^```$").matcher(readme);
        while (m.find()) {
            blocks.add(m.group(1));
        }
        return blocks;
    }

    /** What commands print; what they make in temporary directories is gone behind them. */
    private static String run(String commands) throws IOException, InterruptedException {
        Path room = Files.createTempDirectory("readme");
        ProcessBuilder shell = new ProcessBuilder("sh", "-e", "-c", commands).redirectErrorStream(true);
        shell.environment().put("TMPDIR", room.toString());
        Process process = shell.start();
        String printed = new String(process.getInputStream().readAllBytes(), "ISO-8859-1");
        Due.is("the commands end well:\n" + commands + printed, 0, process.waitFor());
        try (Stream<Path> made = Files.walk(room)) {
            made.sorted(Comparator.reverseOrder()).forEach(path -> path.toFile().delete());
        }
        return printed;
    }

    private static Set<String> callsOfTheClass() {
        Set<String> calls = new TreeSet<>();
        for (Method m : BelievedWords.class.getDeclaredMethods()) {
            if (Modifier.isPublic(m.getModifiers())) {
                calls.add(m.getName() + " of " + m.getParameterCount());
            }
        }
        return calls;
    }

    private static Set<String> callsIn(String readme) {
        Set<String> calls = new TreeSet<>();
        for (String call : namesIn(readme, "(?m)^\\| `(\\w+\\([a-zA-Z, ]*\\))` \\|")) {
            String parameters = call.substring(call.indexOf('(') + 1, call.length() - 1);
            int number = parameters.isEmpty() ? 0 : parameters.split(", ").length;
            calls.add(call.substring(0, call.indexOf('(')) + " of " + number);
        }
        return calls;
    }

    private static Set<String> namesIn(String readme, String form) {
        Set<String> names = new TreeSet<>();
        Matcher m = Pattern.compile(form).matcher(readme);
        while (m.find()) {
            names.add(m.group(1));
        }
        return names;
    }

    private static void answers(String readme) {
        String[] names = {"`NONE`", "`BAD`", "`STATE`", "`FULL`"};
        int[] numbers = {BelievedWords.NONE, BelievedWords.BAD, BelievedWords.STATE, BelievedWords.FULL};
        for (int k = 0; k < names.length; k++) {
            Due.is(names[k] + " is told", 1, readme.contains(names[k] + " (" + numbers[k] + ")") ? 1 : 0);
        }
        for (int finding = 1; finding <= 5; finding++) {
            String row = "(?s).*\n\\| " + (-1000010 - finding) + " \\| [^\n|]*; `status\\(\\)` is " + finding + " \\|.*";
            Due.is("finding " + finding + " is told", 1, readme.matches(row) ? 1 : 0);
        }
    }

    private static Set<String> testsThatAre() {
        Set<String> tests = new TreeSet<>();
        String[] files = new File("tests").list();
        for (String file : files == null ? new String[0] : files) {
            if (file.endsWith("Test.java")) {
                tests.add(file.substring(0, file.length() - ".java".length()));
            }
        }
        return tests;
    }
}
