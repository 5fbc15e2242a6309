import java.io.IOException;
import java.lang.reflect.Constructor;
import java.lang.reflect.Field;
import java.lang.reflect.Method;
import java.lang.reflect.Modifier;
import java.nio.file.Files;
import java.nio.file.Path;
import java.util.ArrayList;
import java.util.Arrays;
import java.util.List;
import java.util.Set;
import java.util.TreeSet;
import java.util.regex.Matcher;
import java.util.regex.Pattern;

/** The document's face, and those rules of LANGUAGE.md that can be seen from the class and its text. */
public final class LanguageTest {
    private static final Path SOURCE = Path.of("src/main/java/SensorBond.java");

    private static final String INDEX = " throws IndexOutOfBoundsException";
    private static final String ARGUMENT = INDEX + " IllegalArgumentException";
    private static final String STATE = ARGUMENT + " IllegalStateException";

    private static final String[] FACE = {
        "hang/2" + INDEX, "attach/2" + INDEX, "setLoss/2" + ARGUMENT, "setPrice/2" + ARGUMENT, "topUp/2" + STATE,
        "tell/2" + STATE, "open/3" + STATE, "challenge/2" + INDEX + " IllegalStateException", "sample/3" + STATE,
        "advance/1 throws IllegalArgumentException IllegalStateException", "tick/0", "readings/0",
        "stateOf/1" + INDEX, "parts/1" + INDEX, "users/1" + INDEX, "held/1" + INDEX, "middle/1" + INDEX,
        "textAt/2" + INDEX, "bond/1" + INDEX, "bondByCuts/1" + INDEX, "earned/1" + INDEX, "mark/1" + INDEX,
        "purse/1" + INDEX, "aside/2" + INDEX, "house/0",
    };

    /** Words that no line of the class may hold, each as a pattern. */
    private static final String[] FORBIDDEN = {
        "^\\s*package\\b", "^\\s*import\\b", "->", "::", "\\btry\\b", "\\bcatch\\b", "\\bfinally\\b",
        "\\bsynchronized\\b", "\\bassert\\b", "\\bSystem\\.(?!arraycopy)", "\\bThread\\b", "\\bRandom\\b",
        "\\bFloat\\b", "\\bDouble\\b", "\\bLong\\b", "\\w+Exact\\b", "\\bObject\\b", "\\bvar\\b", "\\byield\\b",
        "\\bprotected\\b", "\\bnative\\b", "\\bthrows?\\s+\\w*Error\\b", "\\bhashCode\\b", "\\bequals\\b",
        "\\btoString\\b", "\\bwhile\\s*\\(\\s*true", "\"\\s*\\+", "\\+\\s*\"", "@",
    };

    private LanguageTest() {
    }

    public static void main(String[] args) throws IOException {
        constants();
        face();
        hiddenMembers();
        List<String> lines = Files.readAllLines(SOURCE);
        forbiddenWords(lines);
        methodsStayShort(lines);
        throwsStandInTheRules(lines);
        Checks.close("LanguageTest");
    }

    private static void constants() {
        Checks.due("NONE", -1, SensorBond.NONE);
        Checks.due("FRESH", 0, SensorBond.FRESH);
        Checks.due("CHALLENGED", 1, SensorBond.CHALLENGED);
        Checks.due("STOOD", 2, SensorBond.STOOD);
        Checks.due("LIE", 3, SensorBond.LIE);
        Checks.due("LOST", 4, SensorBond.LOST);
    }

    private static void face() {
        Set<String> want = new TreeSet<>(Arrays.asList(FACE));
        Set<String> got = new TreeSet<>();
        for (Method method : SensorBond.class.getDeclaredMethods()) {
            if (!Modifier.isPrivate(method.getModifiers())) {
                Checks.due(method + " is public alone", Modifier.PUBLIC, method.getModifiers());
                Checks.due(method + " answers", "int", method.getReturnType().getName());
                got.add(signatureOf(method));
            }
        }
        Checks.due("the methods of the face", want.toString(), got.toString());
        Checks.due("the class", Modifier.PUBLIC | Modifier.FINAL, SensorBond.class.getModifiers());
        Constructor<?>[] constructors = SensorBond.class.getDeclaredConstructors();
        Checks.due("one constructor", 1, constructors.length);
        Checks.due("it is public", Modifier.PUBLIC, constructors[0].getModifiers());
        Checks.due("without parameters", 0, constructors[0].getParameterCount());
        Set<String> fields = new TreeSet<>();
        for (Field field : SensorBond.class.getDeclaredFields()) {
            if (!Modifier.isPrivate(field.getModifiers())) {
                fields.add(field.getName());
            }
        }
        Checks.due("the constants of the face", "[CHALLENGED, FRESH, LIE, LOST, NONE, STOOD]", fields.toString());
    }

    private static String signatureOf(Method method) {
        StringBuilder text = new StringBuilder(method.getName());
        text.append('/').append(method.getParameterCount());
        String joint = " throws ";
        for (Class<?> thrown : method.getExceptionTypes()) {
            text.append(joint).append(thrown.getSimpleName());
            joint = " ";
        }
        for (Class<?> parameter : method.getParameterTypes()) {
            Checks.due(method + " takes", "int", parameter.getName());
        }
        return text.toString();
    }

    private static void hiddenMembers() {
        List<Class<?>> classes = new ArrayList<>(Arrays.asList(SensorBond.class.getDeclaredClasses()));
        Checks.holds("at most twelve classes", classes.size() < 12);
        classes.add(SensorBond.class);
        Set<String> face = new TreeSet<>();
        for (String row : FACE) {
            face.add(row.substring(0, row.indexOf('/')));
        }
        for (Class<?> c : classes) {
            int changing = 0;
            for (Field field : c.getDeclaredFields()) {
                boolean isStatic = Modifier.isStatic(field.getModifiers());
                Checks.holds(field + " is final if it is static", !isStatic || Modifier.isFinal(field.getModifiers()));
                changing += isStatic ? 0 : 1;
            }
            Checks.holds(c + " has at most twenty fields", changing <= 20);
            for (Method method : c.getDeclaredMethods()) {
                Checks.holds(method + " takes at most seven", method.getParameterCount() <= 7);
                Checks.holds(method + " bears no name of the face",
                    !Modifier.isPrivate(method.getModifiers()) || !face.contains(method.getName()));
            }
        }
    }

    private static String withoutComment(String line) {
        return line.replaceAll("/\\*\\*.*\\*/|//.*", "");
    }

    private static void forbiddenWords(List<String> lines) {
        for (String word : FORBIDDEN) {
            Pattern pattern = Pattern.compile(word);
            for (String line : lines) {
                Checks.holds(word + " in: " + line, !pattern.matcher(withoutComment(line)).find());
            }
        }
    }

    private static void methodsStayShort(List<String> lines) {
        int start = 0;
        for (int i = 0; i < lines.size(); i++) {
            String line = lines.get(i);
            if (line.endsWith("{") && line.matches(" {4}(?! ).*| {8}(private|public).*")) {
                start = i;
            } else if (line.matches(" {4}\\}| {8}\\}")) {
                boolean ofClass = lines.get(start).contains(" class ");
                Checks.holds("a method of more than sixty lines ends at " + (i + 1), ofClass || i - start < 60);
            }
        }
    }

    private static void throwsStandInTheRules(List<String> lines) {
        Pattern allowed = Pattern.compile(
            "throw new (IllegalStateException|IllegalArgumentException|IndexOutOfBoundsException)\\(\"[ -~]*\"\\);");
        for (String line : lines) {
            Matcher thrown = Pattern.compile("\\bthrow\\b").matcher(withoutComment(line));
            if (thrown.find()) {
                Checks.holds("thrown: " + line, allowed.matcher(line).find());
            }
        }
    }
}
