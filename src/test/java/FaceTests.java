import java.io.IOException;
import java.lang.reflect.Constructor;
import java.lang.reflect.Field;
import java.lang.reflect.Method;
import java.lang.reflect.Modifier;
import java.nio.file.Files;
import java.nio.file.Path;
import java.util.ArrayList;
import java.util.Arrays;
import java.util.List;
import java.util.TreeSet;
import java.util.regex.Matcher;
import java.util.regex.Pattern;

/** The face of the document, to the letter, and those rules of LANGUAGE.md that can be read off. */
public final class FaceTests {
    private static final Path SOURCE = Path.of("src/main/java/Proratehouse.java");
    private static final String INDEX = "IndexOutOfBoundsException";
    private static final String ARGUMENT = "IllegalArgumentException";
    private static final String STATE = "IllegalStateException";
    static final String[] METHODS = {
        "int miles(int, int, int) " + INDEX + " " + ARGUMENT,
        "int fare(int, int, int, int, int, int) " + INDEX + " " + ARGUMENT + " " + STATE,
        "void withdraw(int) " + INDEX + " " + STATE,
        "int unit(int) " + ARGUMENT,
        "void tax(int, int, int) " + INDEX + " " + ARGUMENT,
        "int weight(int, int, int) " + INDEX + " " + ARGUMENT,
        "int proviso(int, int, int, int) " + INDEX + " " + ARGUMENT,
        "int penalty(int) " + ARGUMENT,
        "int leg(int, int, int, int) " + INDEX + " " + ARGUMENT + " " + STATE,
        "int wipe()",
        "int part(int, int) " + INDEX + " " + ARGUMENT,
        "int price()",
        "int priceAnew()",
        "int cuts()",
        "int issue(int) " + INDEX + " " + STATE,
        "int fly(int, int) " + INDEX + " " + STATE,
        "int endorse(int, int, int) " + INDEX + " " + STATE,
        "int refund(int) " + INDEX + " " + STATE,
        "int reissue(int) " + INDEX + " " + STATE,
        "int pass(int) " + ARGUMENT + " " + STATE,
        "long clear()",
        "int reject(int) " + INDEX + " " + STATE,
        "void rebill(int) " + INDEX + " " + STATE,
        "int fails(int, boolean) " + INDEX,
        "int ofTicket(int, int) " + INDEX + " " + ARGUMENT,
        "int ofCoupon(int, int, int) " + INDEX + " " + ARGUMENT,
        "int ofBill(int, int) " + INDEX + " " + ARGUMENT,
        "long cash(int) " + INDEX,
        "long cashAnew(int) " + INDEX,
        "long state(int) " + INDEX,
        "long paid()",
        "int of(int) " + ARGUMENT,
    };
    static final String[] CONSTANTS = {
        "NONE=-1", "OPEN=0", "FLOWN=1", "VOID=2", "REFUNDED=3", "EXCHANGED=4",
        "WAITS=0", "PAID=1", "BACK=2", "RETURNED=3", "CLOSED=4",
    };
    /** What the rules leave out (but for catch, which they limit, and this class has no need of). */
    private static final String[] LEFT_OUT = {
        "\\bimport\\b", "\\bpackage\\b", "->", "::", "\\bcatch\\b", "\\bfinally\\b",
        "\\bsynchronized\\b", "\\bassert\\b", "\\bprotected\\b", "\\bSystem\\b",
        "\\bObject\\b", "\\bvar\\b", "Exact\\b", "\\bgoto\\b", "\\bnative\\b", "\\bvolatile\\b",
        "\\btransient\\b", "\\bhashCode\\b", "static\\s*\\{", "\\bjava\\.", "\\bThread\\b", "\"\\s*\\+",
        "\\+\\s*\"", "\\bthis\\s*[,)]", "@",
    };

    private FaceTests() { }

    private static void isSame(String what, Object want, Object got) {
        Check.due(what + ": " + got + " for " + want, 1, want.equals(got) ? 1 : 0);
    }

    private static void face() throws IllegalAccessException {
        TreeSet<String> methods = new TreeSet<>();
        TreeSet<String> names = new TreeSet<>();
        for (Method method : Proratehouse.class.getDeclaredMethods()) {
            if (Modifier.isPublic(method.getModifiers())) {
                methods.add(told(method));
                names.add(method.getName());
            }
        }
        isSame("the methods", new TreeSet<>(Arrays.asList(METHODS)), methods);
        for (Method method : Proratehouse.class.getDeclaredMethods()) {
            int bits = method.getModifiers();
            Check.due(method + " is public or private", 1,
                    Modifier.isPublic(bits) || Modifier.isPrivate(bits) ? 1 : 0);
            Check.due(method + " has a name of its own", 0,
                    Modifier.isPrivate(bits) && names.contains(method.getName()) ? 1 : 0);
        }
        TreeSet<String> constants = new TreeSet<>();
        for (Field field : Proratehouse.class.getDeclaredFields()) {
            int bits = field.getModifiers();
            if (Modifier.isPublic(bits)) {
                constants.add(field.getName() + "=" + field.get(null));
            }
            Check.due(field + " is a constant or private", 1, Modifier.isPrivate(bits)
                    || Modifier.isPublic(bits) && Modifier.isStatic(bits) && Modifier.isFinal(bits)
                    && field.getType() == int.class ? 1 : 0);
        }
        isSame("the constants", new TreeSet<>(Arrays.asList(CONSTANTS)), constants);
        Constructor<?>[] constructors = Proratehouse.class.getDeclaredConstructors();
        Check.due("constructors", 1, constructors.length);
        Check.due("a public one without arguments", 1,
                Modifier.isPublic(constructors[0].getModifiers())
                && constructors[0].getParameterCount() == 0 ? 1 : 0);
        int bits = Proratehouse.class.getModifiers();
        Check.due("public and final", 1, Modifier.isPublic(bits) && Modifier.isFinal(bits) ? 1 : 0);
    }

    private static String told(Method method) {
        StringBuilder text = new StringBuilder();
        List<String> kinds = new ArrayList<>();
        for (Class<?> kind : method.getParameterTypes()) {
            kinds.add(kind.getSimpleName());
        }
        text.append(method.getReturnType().getSimpleName()).append(' ').append(method.getName());
        text.append('(').append(String.join(", ", kinds)).append(')');
        for (Class<?> thrown : method.getExceptionTypes()) {
            text.append(' ').append(thrown.getSimpleName());
        }
        return text.toString();
    }

    private static void classesInside() {
        Class<?>[] inside = Proratehouse.class.getDeclaredClasses();
        Check.due("at most twelve classes", 1, inside.length <= 11 ? 1 : 0);
        List<Class<?>> all = new ArrayList<>(Arrays.asList(inside));
        all.add(Proratehouse.class);
        for (Class<?> each : all) {
            int rows = 0;
            for (Field field : each.getDeclaredFields()) {
                rows += Modifier.isStatic(field.getModifiers()) ? 0 : 1;
                Check.due(field + ", if static, is final", 0, Modifier.isStatic(field.getModifiers())
                        && !Modifier.isFinal(field.getModifiers()) ? 1 : 0);
            }
            Check.due(each + " has at most twenty fields", 1, rows <= 20 ? 1 : 0);
            for (Method method : each.getDeclaredMethods()) {
                Check.due(method + " takes at most seven", 1, method.getParameterCount() <= 7 ? 1 : 0);
            }
            for (Constructor<?> maker : each.getDeclaredConstructors()) {
                Check.due(maker + " takes at most seven", 1, maker.getParameterCount() <= 7 ? 1 : 0);
            }
        }
        for (Class<?> each : inside) {
            int bits = each.getModifiers();
            Check.due(each + " is static and private", 1,
                    Modifier.isStatic(bits) && Modifier.isPrivate(bits) ? 1 : 0);
        }
    }

    private static void text() throws IOException {
        String whole = Files.readString(SOURCE);
        Check.due("signs 1 to 127 alone", 0, whole.chars().filter(c -> c > 126 || c == 0).count());
        String code = whole.replaceAll("(?s)/\\*.*?\\*/", "").replaceAll("//[^\n]*", "");
        for (String pattern : LEFT_OUT) {
            Matcher found = Pattern.compile(pattern).matcher(code);
            Check.due("the text holds no " + pattern, 0, found.find() ? 1 : 0);
        }
        Matcher thrown = Pattern.compile("\\bthrow\\b[^;]*;").matcher(code);
        while (thrown.find()) {
            Check.due(thrown.group(), 1, thrown.group().matches("throw new (" + INDEX + "|" + ARGUMENT
                    + "|" + STATE + ")\\(\"[^\"]+\"\\);") ? 1 : 0);
        }
        int length = 0;
        for (String line : code.split("\n")) {
            length = line.matches(" {4}(?: {4})?\\w.*\\{|.*\\bclass\\b.*") ? 0 : length + 1;
            Check.due("a method of more than sixty lines at " + line, 0,
                    length > 60 && line.matches(" {4}(?: {4})?\\}") ? 1 : 0);
        }
    }

    public static void main(String[] args) throws IOException, IllegalAccessException {
        face();
        classesInside();
        text();
        Check.end("the face and the language");
    }
}
