import java.io.IOException;
import java.lang.reflect.InvocationTargetException;
import java.lang.reflect.Method;
import java.nio.file.DirectoryStream;
import java.nio.file.Files;
import java.nio.file.Path;
import java.util.ArrayList;
import java.util.Arrays;
import java.util.List;
import java.util.TreeSet;
import java.util.regex.Matcher;
import java.util.regex.Pattern;

/**
 * README.md tells the calls as the face has them, its example answers as it says, and no test
 * program is missing from it.
 */
public final class ReadmeTests {
    private static final Path README = Path.of("README.md");
    private static final Path TESTS = Path.of("src/test/java");
    private static final Pattern ROW = Pattern.compile("\\| `(\\w+ \\w+\\([^)]*\\))` \\|[^|]*\\|([^|]*)\\|");
    private static final Pattern REFUSAL = Pattern.compile("\\*(index|argument|state)\\*");
    private static final Pattern LINE =
            Pattern.compile("house\\.(\\w+)\\(([^)]*)\\);(?:\\s+// (throws \\w+|-?\\d+)(?::.*)?)?");

    private ReadmeTests() { }

    private static void isSame(String what, Object want, Object got) {
        Check.due(what + ": " + got + " for " + want, 1, want.equals(got) ? 1 : 0);
    }

    /** The rows of the tables, told as FaceTests tells the methods of the face. */
    private static List<String> callsTold(List<String> lines) {
        List<String> told = new ArrayList<>();
        for (String line : lines) {
            Matcher row = ROW.matcher(line);
            if (row.matches()) {
                String call = row.group(1).replaceAll("\\b(int|boolean) \\w+(?=[,)])", "$1");
                told.add(call + refusalsTold(row.group(2)));
            }
        }
        return told;
    }

    private static String refusalsTold(String cell) {
        StringBuilder told = new StringBuilder();
        Matcher refusal = REFUSAL.matcher(cell);
        while (refusal.find()) {
            Class<?> kind = refusal.group(1).equals("index") ? Check.INDEX
                    : refusal.group(1).equals("argument") ? Check.ARGUMENT : Check.STATE;
            told.append(' ').append(kind.getSimpleName());
        }
        return told.toString();
    }

    private static Method called(String name) {
        for (Method method : Proratehouse.class.getDeclaredMethods()) {
            if (method.getName().equals(name)) {
                return method;
            }
        }
        throw new AssertionError("README.md calls " + name + ", which there is not");
    }

    private static Object[] argumentsOf(String text) {
        List<Object> arguments = new ArrayList<>();
        for (String each : text.isBlank() ? new String[0] : text.split(", ")) {
            boolean isFlag = each.equals("true") || each.equals("false");
            arguments.add(isFlag ? (Object) Boolean.valueOf(each) : Integer.valueOf(each));
        }
        return arguments.toArray();
    }

    /** What the line of the example answers, written as README.md writes it. */
    private static String answerOf(Proratehouse house, Method method, Object[] arguments)
            throws IllegalAccessException {
        try {
            return String.valueOf(method.invoke(house, arguments));
        } catch (InvocationTargetException thrown) {
            return "throws " + thrown.getCause().getClass().getSimpleName();
        }
    }

    /** Calls all lines of the example on one house; returns the names of those it called. */
    private static TreeSet<String> example(List<String> lines) throws IllegalAccessException {
        Proratehouse house = null;
        TreeSet<String> names = new TreeSet<>();
        for (String line : blocksOf(lines, "java")) {
            if (line.isBlank()) {
                continue;
            }
            if (line.equals("Proratehouse house = new Proratehouse();")) {
                house = new Proratehouse();
                continue;
            }
            Matcher told = LINE.matcher(line);
            if (!told.matches()) {
                throw new AssertionError("README.md has a line that is no call: " + line);
            }
            Method method = called(told.group(1));
            String got = answerOf(house, method, argumentsOf(told.group(2)));
            String want = told.group(3) == null ? "nothing" : told.group(3);
            boolean isSilent = method.getReturnType() == void.class && got.equals("null");
            isSame(line, want, isSilent ? "nothing" : got);
            names.add(told.group(1));
        }
        return names;
    }

    private static List<String> blocksOf(List<String> lines, String language) {
        List<String> inside = new ArrayList<>();
        boolean isInside = false;
        for (String line : lines) {
            if (line.startsWith("```")) {
                isInside = line.equals("```" + language);
            } else if (isInside) {
                inside.add(line);
            }
        }
        return inside;
    }

    private static void programsAreNamed(String readme) throws IOException {
        try (DirectoryStream<Path> programs = Files.newDirectoryStream(TESTS, "*Tests.java")) {
            for (Path program : programs) {
                String name = program.getFileName().toString().replace(".java", "");
                Check.due(name + " is named", 1, readme.contains("`" + name + "`") ? 1 : 0);
            }
        }
        Matcher named = Pattern.compile("\\b[A-Z]\\w*Tests\\b").matcher(readme);
        while (named.find()) {
            Check.due(named.group() + " is there", 1,
                    Files.exists(TESTS.resolve(named.group() + ".java")) ? 1 : 0);
        }
    }

    public static void main(String[] args) throws IOException, IllegalAccessException {
        List<String> lines = Files.readAllLines(README);
        isSame("the calls in their order", Arrays.asList(FaceTests.METHODS), callsTold(lines));
        TreeSet<String> all = new TreeSet<>();
        for (String method : FaceTests.METHODS) {
            all.add(method.replaceAll("^\\w+ (\\w+)\\(.*", "$1"));
        }
        isSame("the calls in the example", all, example(lines));
        String readme = String.join("\n", lines);
        for (String constant : FaceTests.CONSTANTS) {
            String told = constant.replace("=", " = ");
            Check.due(told + " is told", 1, readme.contains(told) ? 1 : 0);
        }
        isSame("the first command", "bash .ci/run", blocksOf(lines, "sh").get(0));
        programsAreNamed(readme);
        Check.end("README.md");
    }
}
