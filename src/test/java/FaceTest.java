import java.io.IOException;
import java.lang.reflect.Constructor;
import java.lang.reflect.Field;
import java.lang.reflect.Method;
import java.lang.reflect.Modifier;
import java.nio.file.Files;
import java.nio.file.Path;
import java.util.ArrayList;
import java.util.Arrays;
import java.util.HashSet;
import java.util.List;
import java.util.Set;
import java.util.TreeSet;
import java.util.regex.Matcher;
import java.util.regex.Pattern;

/** The class bears the document's members and no other, and keeps to what of LANGUAGE.md can be seen from here. */
public final class FaceTest {
    private static final String I = "IndexOutOfBoundsException";
    private static final String A = "IllegalArgumentException";
    private static final String S = "IllegalStateException";

    private FaceTest() {
    }

    public static void main(String[] args) throws IOException {
        members();
        sizes();
        String source = Files.readString(Path.of(System.getProperty("main.source", "src/main/java/QuakeBench.java")));
        language(source);
        Check.end();
    }

    private static Set<String> due() {
        return new TreeSet<>(Arrays.asList(
                "int addStation(int, int) " + A + " " + S,
                "int setDelay(int, int) " + I + " " + A,
                "int setSpeeds(int, int) " + A,
                "int way(int, int, int, int) " + I + " " + A,
                "int needs(int, int, int, int, boolean) " + I + " " + A,
                "int addPick(int, boolean, int) " + I + " " + A + " " + S,
                "int setWeight(int, int) " + I + " " + A,
                "int pick(int, int) " + I,
                "int addEvent() " + S,
                "int give(int, int) " + I + " " + S,
                "int associate()",
                "int count(int) " + I,
                "long seek(int) " + I + " " + S,
                "int event(int, int) " + I + " " + S,
                "long misfit(int, int, int, int) " + I + " " + A,
                "int residual(int) " + I + " " + S,
                "int worst(int) " + I + " " + S,
                "double spread(int) " + I + " " + S,
                "int gap(int) " + I + " " + S,
                "int setAmplitude(int, int) " + I + " " + A,
                "int magnitude(int) " + I + " " + S,
                "int families(int, int) " + A,
                "int family(int, int, int) " + I + " " + A + " " + S,
                "int nearest(int, int, int) " + A,
                "long digest()"));
    }

    private static String told(Method method) {
        StringBuilder text = new StringBuilder(method.getReturnType().getSimpleName());
        text.append(' ').append(method.getName()).append('(');
        String comma = "";
        for (Class<?> type : method.getParameterTypes()) {
            text.append(comma).append(type.getSimpleName());
            comma = ", ";
        }
        text.append(')');
        for (Class<?> type : method.getExceptionTypes()) {
            text.append(' ').append(type.getSimpleName());
        }
        return text.toString();
    }

    private static void members() {
        Class<?> face = QuakeBench.class;
        same("the class's modifiers", Modifier.toString(face.getModifiers()), "public final");
        Set<String> shown = new TreeSet<>();
        Set<String> names = new HashSet<>();
        for (Method method : face.getDeclaredMethods()) {
            if (!Modifier.isPrivate(method.getModifiers())) {
                shown.add(told(method));
                names.add(method.getName());
                same("modifiers of " + method.getName(), Modifier.toString(method.getModifiers()), "public");
            }
        }
        same("the face", shown.toString(), due().toString());
        Constructor<?>[] constructors = face.getDeclaredConstructors();
        same("the constructors", Arrays.toString(constructors), "[public QuakeBench()]");
        same("fields that can be seen", Long.toString(Arrays.stream(face.getDeclaredFields())
                .filter(f -> !Modifier.isPrivate(f.getModifiers())).count()), "0");
        for (Method method : face.getDeclaredMethods()) {
            if (Modifier.isPrivate(method.getModifiers()) && names.contains(method.getName())) {
                Check.tell("a private method is named " + method.getName());
            }
        }
        for (Class<?> inside : face.getDeclaredClasses()) {
            if (!Modifier.isStatic(inside.getModifiers()) || Modifier.isPublic(inside.getModifiers())) {
                Check.tell("the class inside is not static, or public: " + inside.getSimpleName());
            }
            for (Method method : inside.getDeclaredMethods()) {
                if (names.contains(method.getName())) {
                    Check.tell("a method inside is named " + method.getName());
                }
            }
        }
    }

    /** Rule 11: how many classes, fields and parameters there may be. */
    private static void sizes() {
        List<Class<?>> classes = new ArrayList<>(Arrays.asList(QuakeBench.class.getDeclaredClasses()));
        classes.add(QuakeBench.class);
        atMost(12, classes.size(), "classes");
        for (Class<?> one : classes) {
            String name = one.getSimpleName();
            atMost(20, Arrays.stream(one.getDeclaredFields()).filter(f -> !Modifier.isStatic(f.getModifiers())).count(),
                    "fields of " + name);
            for (Field field : one.getDeclaredFields()) {
                if (Modifier.isStatic(field.getModifiers()) && !Modifier.isFinal(field.getModifiers())) {
                    Check.tell("a static field that isn't final: " + name + "." + field.getName());
                }
            }
            for (Method method : one.getDeclaredMethods()) {
                atMost(7, method.getParameterCount(), "parameters of " + name + "." + method.getName());
            }
        }
    }

    private static void atMost(int most, long got, String what) {
        if (got > most) {
            Check.tell(got + " " + what + ", at most are " + most);
        }
    }

    private static void language(String source) {
        String[] forbidden = {
            "->", "::", "\\bcatch\\b", "\\bfinally\\b", "\\bsynchronized\\b", "\\bassert\\b", "\\bpackage\\b",
            "\\bSystem\\.(?!arraycopy)", "\\bMath\\.(?!abs|min|max)", "\\bThread\\b", "\\bRandom\\b", "\\bfloat\\b",
            "static \\{", "for \\([^;]*:[^;]*\\)", "import (?!java\\.util\\.ArrayList;)", "[^\\x00-\\x7f]",
        };
        for (String pattern : forbidden) {
            Matcher found = Pattern.compile(pattern).matcher(source);
            if (found.find()) {
                Check.tell("the source has " + found.group());
            }
        }
        Matcher thrown = Pattern.compile("throw\\s+(?!new (" + I + "|" + A + "|" + S + ")\\(\"[^\"]*\"\\);)").matcher(source);
        if (thrown.find()) {
            Check.tell("a throw that the document does not name");
        }
    }

    private static void same(String what, String got, String want) {
        if (!got.equals(want)) {
            Check.tell(what + ": " + got + ", due is " + want);
        }
    }
}
