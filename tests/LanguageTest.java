import java.io.IOException;
import java.lang.reflect.Constructor;
import java.lang.reflect.Field;
import java.lang.reflect.Method;
import java.lang.reflect.Modifier;
import java.nio.file.Files;
import java.nio.file.Paths;
import java.util.Arrays;
import java.util.HashSet;
import java.util.Set;
import java.util.TreeSet;
import java.util.regex.Matcher;
import java.util.regex.Pattern;

/** The face of the document, its constants, and those rules of LANGUAGE.md that can be seen from outside. */
public final class LanguageTest {
    private static final String FACE = "int row(int,int,int) int set(int,int,int) int copy(int,int,int,int,int)"
        + " int drop(int) int feed(int) int court() int fault() int undo() int say(int,int) int pardon(int)"
        + " int strike(int,int) int stand(int) int rule(int,int) int cell(int) int makes(int,int)"
        + " int shortest(int,int,int) int cheapest(int,int,int) int idle(int) int giveUp(int,int)"
        + " int order(int,int) int ever(int) int said(int,int,int,int,int) int who(int,int,int,int)"
        + " long temper(int,int,int,int,int,int) int drawn(int,int,int) int image(int) int restore(int)"
        + " int kind(int) int as(int,int) int ask(int,int) int trace(int) int count(int) int status()";

    public static void main(String[] args) throws IOException {
        constants();
        face();
        insides();
        words(new String(Files.readAllBytes(Paths.get("src/main/java/BelievedWords.java")), "ISO-8859-1"));
        Due.end();
    }

    private static void constants() {
        Due.is("NONE", -1000000, BelievedWords.NONE);
        Due.is("BAD", -1000001, BelievedWords.BAD);
        Due.is("STATE", -1000002, BelievedWords.STATE);
        Due.is("FULL", -1000003, BelievedWords.FULL);
    }

    private static void face() {
        Class<?> c = BelievedWords.class;
        Due.is("public and final", Modifier.PUBLIC | Modifier.FINAL, c.getModifiers());
        Set<String> want = new TreeSet<>(Arrays.asList(FACE.split(" (?=int |long )")));
        Set<String> got = new TreeSet<>();
        Set<String> names = new HashSet<>();
        for (Method m : c.getDeclaredMethods()) {
            if (Modifier.isPrivate(m.getModifiers())) {
                continue;
            }
            Due.is(m + " is public, and nothing else", Modifier.PUBLIC, m.getModifiers());
            names.add(m.getName());
            String parameters = Arrays.toString(m.getParameterTypes()).replaceAll("[\\[\\] ]", "");
            got.add(m.getReturnType() + " " + m.getName() + "(" + parameters + ")");
        }
        System.out.print(want.equals(got) ? "" : "due are " + want + "\ngot are " + got + "\n");
        Due.is("the methods", 1, want.equals(got) ? 1 : 0);
        for (Method m : c.getDeclaredMethods()) {
            boolean hides = Modifier.isPrivate(m.getModifiers()) && names.contains(m.getName());
            Due.is("private " + m.getName() + " bears a public name", 0, hides ? 1 : 0);
        }
        for (Constructor<?> k : c.getDeclaredConstructors()) {
            Due.is("the constructor", 0, k.getParameterCount());
        }
        Set<String> fields = new TreeSet<>();
        for (Field f : c.getDeclaredFields()) {
            if (!Modifier.isPrivate(f.getModifiers())) {
                fields.add(f.getName());
            }
        }
        Due.is("the constants " + fields, 1, fields.toString().equals("[BAD, FULL, NONE, STATE]") ? 1 : 0);
    }

    private static void insides() {
        Class<?>[] inside = BelievedWords.class.getDeclaredClasses();
        Due.is("at most twelve classes", 1, inside.length < 12 ? 1 : 0);
        for (Class<?> c : inside) {
            Due.is(c + " is static", 1, Modifier.isStatic(c.getModifiers()) ? 1 : 0);
            int fields = 0;
            for (Field f : c.getDeclaredFields()) {
                boolean constant = Modifier.isStatic(f.getModifiers());
                Due.is(f + " is final, if static", 0, constant && !Modifier.isFinal(f.getModifiers()) ? 1 : 0);
                fields += constant ? 0 : 1;
            }
            Due.is(c + " has at most twenty fields", 1, fields <= 20 ? 1 : 0);
            for (Method m : c.getDeclaredMethods()) {
                Due.is(m + " has at most seven parameters", 1, m.getParameterCount() <= 7 ? 1 : 0);
            }
        }
    }

    private static void words(String source) {
        String code = source.replaceAll("(?s)/\\*.*?\\*/", "").replaceAll("//[^\n]*", "");
        String[] out = {"\\bthrow", "\\btry\\b", "\\bcatch\\b", "\\bsynchronized\\b", "\\bassert\\b", "->", "::",
            "\\bpackage\\b", "\\bthis\\s*\\(", "static\\s*\\{", "\"", "\\bdouble\\b", "\\bfloat\\b", "\\bSystem\\.(?!arraycopy)",
            "\\bArrays\\.(?!fill|copyOf)", "\\bprotected\\b", "Exact\\(", "\\bvar\\b", "\\byield\\b", "\\bwhile\\b"};
        for (String word : out) {
            Matcher found = Pattern.compile(word).matcher(code);
            Due.is("what the language leaves out: " + word, 0, found.find() ? 1 : 0);
        }
        Matcher imports = Pattern.compile("import ([^;]*);").matcher(code);
        while (imports.find()) {
            Due.is("import " + imports.group(1), 1, imports.group(1).equals("java.util.Arrays") ? 1 : 0);
        }
        int longest = 0;
        int begun = 0;
        String[] lines = code.split("\n");
        for (int i = 0; i < lines.length; i++) {
            String indent = lines[i].replaceAll("\\S.*", "");
            boolean opens = lines[i].matches(" +[\\w\\[\\] ]+\\(.*\\) \\{") && (indent.length() == 4 || indent.length() == 8);
            begun = opens ? i : begun;
            boolean closes = lines[i].equals("    }") || lines[i].equals("        }");
            longest = closes && begun > 0 ? Math.max(longest, i - begun) : longest;
            begun = closes ? 0 : begun;
        }
        Due.is("methods of at most sixty lines, not " + longest, 1, longest > 5 && longest <= 60 ? 1 : 0);
    }
}
