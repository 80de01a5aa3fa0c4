import java.io.IOException;
import java.lang.reflect.Constructor;
import java.lang.reflect.Field;
import java.lang.reflect.Method;
import java.lang.reflect.Modifier;
import java.nio.file.Files;
import java.nio.file.Path;
import java.util.Arrays;
import java.util.Set;
import java.util.TreeSet;
import java.util.regex.Matcher;
import java.util.regex.Pattern;

/** The public face and the rules of the language, as far as they can be seen from names and words. */
public final class FaceTest {
    private static final Due due = new Due("FaceTest");

    private static final Set<String> FACE = new TreeSet<>(Arrays.asList(
            "int addProgramme(int, int, int)", "int addRight(int, int, int, int)", "int addBlackout(int, int, int)",
            "int place(int, int, boolean)", "int remove(int)", "int earliest(int, int)", "int fill(int, int)",
            "int runOver(int, int)", "int makeGood(int, int)", "int items()", "int item(int, int)", "int onAir(int)",
            "int left(int)", "int mayPlace(int, int)", "int owed(int)", "int minutes(int, int, int)",
            "int silence(int, int)", "int ranked(int)", "int broken()", "int line(int, int)", "int undo()",
            "long fingerprint()"));

    public static void main(String[] args) throws IOException {
        constants();
        methods();
        fieldsAndConstructors();
        nestedClasses();
        words();
        due.end();
    }

    private static void constants() {
        due.is("BAD", RadioWeek.BAD, -1);
        due.is("STATE", RadioWeek.STATE, -2);
        due.is("FULL", RadioWeek.FULL, -3);
        due.is("CLASH", RadioWeek.CLASH, -4);
        due.is("RIGHT", RadioWeek.RIGHT, -5);
        due.is("DARK", RadioWeek.DARK, -6);
        due.is("NONE", RadioWeek.NONE, -9);
    }

    private static String signature(Method method) {
        StringBuilder text = new StringBuilder(method.getReturnType() + " " + method.getName() + "(");
        for (Class<?> type : method.getParameterTypes()) {
            text.append(text.charAt(text.length() - 1) == '(' ? "" : ", ").append(type);
        }
        return text.append(")").toString();
    }

    private static void methods() {
        Set<String> found = new TreeSet<>();
        Set<String> publicNames = new TreeSet<>();
        for (Method method : RadioWeek.class.getDeclaredMethods()) {
            if (Modifier.isPublic(method.getModifiers())) {
                found.add(signature(method));
                publicNames.add(method.getName());
                due.holds(method + " is of the object", !Modifier.isStatic(method.getModifiers()));
            }
        }
        due.holds("the public methods are " + FACE + ", not " + found, found.equals(FACE));
        for (Method method : RadioWeek.class.getDeclaredMethods()) {
            if (!Modifier.isPublic(method.getModifiers())) {
                due.holds(method + " is private", Modifier.isPrivate(method.getModifiers()));
                due.holds(method + " has a name of its own", !publicNames.contains(method.getName()));
            }
            due.holds(method + " has at most seven parameters", method.getParameterCount() <= 7);
        }
    }

    private static void fieldsAndConstructors() {
        int constants = 0;
        for (Field field : RadioWeek.class.getDeclaredFields()) {
            int modifiers = field.getModifiers();
            if (Modifier.isPublic(modifiers)) {
                constants++;
                due.holds(field + " is a constant", Modifier.isStatic(modifiers) && Modifier.isFinal(modifiers));
            } else {
                due.holds(field + " is private", Modifier.isPrivate(modifiers));
            }
        }
        due.is("public constants", constants, 7);
        Constructor<?>[] constructors = RadioWeek.class.getDeclaredConstructors();
        due.is("constructors", constructors.length, 1);
        due.holds("the constructor is public", Modifier.isPublic(constructors[0].getModifiers()));
        due.is("its parameters", constructors[0].getParameterCount(), 0);
        due.holds("the class is public and final", Modifier.isPublic(RadioWeek.class.getModifiers())
                && Modifier.isFinal(RadioWeek.class.getModifiers()));
    }

    private static void nestedClasses() {
        Class<?>[] nested = RadioWeek.class.getDeclaredClasses();
        due.holds("there are at most twelve classes", nested.length < 12);
        for (Class<?> inside : nested) {
            due.holds(inside + " is static", Modifier.isStatic(inside.getModifiers()));
            due.holds(inside + " is not public", !Modifier.isPublic(inside.getModifiers()));
            for (Field field : inside.getDeclaredFields()) {
                due.holds(field + " is final if it is static",
                        !Modifier.isStatic(field.getModifiers()) || Modifier.isFinal(field.getModifiers()));
            }
        }
    }

    private static void words() throws IOException {
        String source = Files.readString(Path.of("src/main/java/RadioWeek.java"));
        String code = source.replaceAll("(?s)/\\*.*?\\*/", " ").replaceAll("//[^\n]*", " ");
        String[] ruledOut = {"\\bthrow\\b", "\\bthrows\\b", "\\btry\\b", "\\bcatch\\b", "\\bsynchronized\\b",
            "\\bassert\\b", "\\bimport\\b", "\\bpackage\\b", "->", "::", "Exact\\b", "\\bthread\\b",
            "\\bprotected\\b", "@", "\\bSystem\\.(?!arraycopy)", "\\bvolatile\\b", "\\bnative\\b"};
        for (String word : ruledOut) {
            Matcher found = Pattern.compile(word).matcher(code);
            due.holds("the code is without " + word, !found.find());
        }
        for (int i = 0; i < source.length(); i++) {
            if (source.charAt(i) < 1 || source.charAt(i) > 127) {
                due.holds("sign " + i + " is within 1 to 127", false);
            }
        }
    }
}
