import java.io.IOException;
import java.lang.reflect.Constructor;
import java.lang.reflect.Field;
import java.lang.reflect.Method;
import java.lang.reflect.Modifier;
import java.nio.file.Files;
import java.nio.file.Path;
import java.util.ArrayList;
import java.util.Arrays;
import java.util.List;
import java.util.TreeSet;
import java.util.regex.Matcher;
import java.util.regex.Pattern;

/** The public face as the document writes it, and rules of LANGUAGE.md that the class or its text shows. */
public final class FaceTest {
    private static final String[] METHODS = {
        "int point(int, int, int)", "int line(int, int, int)", "int conic(int, int, int, int, int, int)", "int count(int)",
        "int number(int, int, int)", "int join(int, int)", "int meet(int, int)", "int on(int, int, int)",
        "int five(int, int, int, int, int)", "int kind(int)", "long told(int, int)", "int round(int)", "int polar(int, int)",
        "int pole(int, int)", "int centre(int)", "int dual(int)", "int member(int, int, int, int)", "int through(int, int, int)",
        "long cubic(int, int, int)", "int cross(int, int)", "long crossing(int, int)", "int split(int)", "long part(int, int)"};
    private static final String[] CONSTANTS = {"NONE", "UNKNOWN", "OUTSIDE", "STATE", "ROOM", "LARGE"};
    private static final String FORBIDDEN = "\\b(import|package|try|catch|finally|throw|synchronized|assert|instanceof|double|float"
        + "|protected|interface|Object|System|Thread|\\w+Exact|hashCode|toString|equals)\\b|->|::|static\\s*\\{|\\[\\]\\s*\\[\\]";

    private static int wrong = 0;

    public static void main(String[] args) throws IOException {
        dueFace();
        dueNothingElseVisible();
        dueNames();
        dueText();
        dueSmallClasses();
        dueShortMethods();
        dueNothingMadeByCalls();
        System.out.println(wrong == 0 ? "the face is as due" : wrong + " things are not as due");
        if (wrong != 0) {
            System.exit(1);
        }
    }

    private static void due(String what, Object got, Object want) {
        if (!got.equals(want)) {
            wrong++;
            System.out.println(what + " is " + got + ", due is " + want);
        }
    }

    private static void dueFace() {
        int modifiers = ConicRows.class.getModifiers();
        due("public final class", Modifier.isPublic(modifiers) && Modifier.isFinal(modifiers), true);
        TreeSet<String> methods = new TreeSet<>();
        for (Method m : ConicRows.class.getDeclaredMethods()) {
            if (Modifier.isPublic(m.getModifiers())) {
                due(m.getName() + " is static", Modifier.isStatic(m.getModifiers()), false);
                List<String> types = new ArrayList<>();
                for (Class<?> type : m.getParameterTypes()) {
                    types.add(type.getName());
                }
                methods.add(m.getReturnType().getName() + " " + m.getName() + "(" + String.join(", ", types) + ")");
            }
        }
        due("the methods", methods, new TreeSet<>(Arrays.asList(METHODS)));
        TreeSet<String> constants = new TreeSet<>();
        for (Field f : ConicRows.class.getFields()) {
            constants.add(f.getName());
            due(f.getName(), Modifier.toString(f.getModifiers()) + " " + f.getType().getName(), "public static final int");
        }
        due("the constants", constants, new TreeSet<>(Arrays.asList(CONSTANTS)));
        Constructor<?>[] constructors = ConicRows.class.getDeclaredConstructors();
        due("constructors", constructors.length, 1);
        due("the constructor's parameters", constructors[0].getParameterCount(), 0);
        due("the constructor is public", Modifier.isPublic(constructors[0].getModifiers()), true);
    }

    private static boolean isHidden(int modifiers, boolean inTheFace) {
        return Modifier.isPrivate(modifiers) || inTheFace && Modifier.isPublic(modifiers);
    }

    private static void dueNothingElseVisible() {
        for (Method m : ConicRows.class.getDeclaredMethods()) {
            due(m.getName() + " is hidden or of the face", m.isSynthetic() || isHidden(m.getModifiers(), true), true);
        }
        for (Field f : ConicRows.class.getDeclaredFields()) {
            due(f.getName() + " is hidden or of the face", f.isSynthetic() || isHidden(f.getModifiers(), true), true);
            boolean fixed = !Modifier.isStatic(f.getModifiers()) || Modifier.isFinal(f.getModifiers());
            due(f.getName() + " is no static state", fixed, true);
        }
        for (Class<?> inside : ConicRows.class.getDeclaredClasses()) {
            due(inside.getName() + " is static", Modifier.isStatic(inside.getModifiers()), true);
            due(inside.getName() + " is not public", Modifier.isPublic(inside.getModifiers()), false);
        }
        due("at most twelve classes", ConicRows.class.getDeclaredClasses().length <= 11, true);
    }

    private static void dueNames() {
        TreeSet<String> names = new TreeSet<>();
        for (String method : METHODS) {
            names.add(method.substring(method.indexOf(' ') + 1, method.indexOf('(')));
        }
        for (Class<?> c : allClasses()) {
            for (Method m : c.getDeclaredMethods()) {
                boolean ofTheFace = c == ConicRows.class && Modifier.isPublic(m.getModifiers());
                due(c.getName() + "." + m.getName() + " bears a public name", !ofTheFace && names.contains(m.getName()), false);
            }
        }
    }

    private static String codeWithoutComments() throws IOException {
        String text = Files.readString(Path.of("src/main/java/ConicRows.java"));
        return text.replaceAll("(?s)/\\*.*?\\*/", " ").replaceAll("//[^\n]*", " ");
    }

    private static void dueText() throws IOException {
        Matcher found = Pattern.compile(FORBIDDEN).matcher(codeWithoutComments());
        while (found.find()) {
            due("in the text", found.group(), "nothing of that sort");
        }
    }

    private static List<Class<?>> allClasses() {
        List<Class<?>> classes = new ArrayList<>(Arrays.asList(ConicRows.class.getDeclaredClasses()));
        classes.add(ConicRows.class);
        return classes;
    }

    private static void dueSmallClasses() {
        for (Class<?> c : allClasses()) {
            int fields = 0;
            for (Field f : c.getDeclaredFields()) {
                fields += Modifier.isStatic(f.getModifiers()) ? 0 : 1;
            }
            due(c.getName() + " has at most 20 fields", fields <= 20, true);
            for (Method m : c.getDeclaredMethods()) {
                due(c.getName() + "." + m.getName() + " has at most 7 parameters", m.getParameterCount() <= 7, true);
            }
        }
    }

    private static void dueShortMethods() throws IOException {
        Matcher methods = methodsOf(codeWithoutComments());
        int seen = 0;
        while (methods.find()) {
            seen++;
            long lines = methods.group().lines().count();
            due(methods.group(2) + " has at most 60 lines", lines <= 60, true);
        }
        // The search must have found every method, or it has looked at nothing.
        due("methods and constructors that were found", seen, countedMethods());
    }

    private static int countedMethods() {
        int counted = 1;
        for (Class<?> c : allClasses()) {
            for (Method m : c.getDeclaredMethods()) {
                counted += m.isSynthetic() ? 0 : 1;
            }
        }
        // ConicRows has a constructor that is written out, as have Shelf and Pair.
        return counted + 2;
    }

    /** Each method or constructor, from its first line to the bracket that stands as far in as that. */
    private static Matcher methodsOf(String code) {
        return Pattern.compile("(?ms)^( {4}| {8})(?! |else|if|for|while|switch|private static final class)"
            + "([\\w\\[\\] ]+\\([^)]*\\)) \\{$.*?^\\1\\}$").matcher(code);
    }

    /** All calls of a run share one room: the constructors make the rows, calls only use them. */
    private static void dueNothingMadeByCalls() throws IOException {
        Matcher methods = methodsOf(codeWithoutComments());
        while (methods.find()) {
            boolean constructor = !methods.group(2).replace("public ", "").replaceAll("\\(.*", "").contains(" ");
            boolean makes = Pattern.compile("\\bnew\\b").matcher(methods.group()).find();
            due(methods.group(2) + " makes an object", makes && !constructor, false);
        }
    }
}
