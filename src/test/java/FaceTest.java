import java.lang.reflect.Constructor;
import java.lang.reflect.Field;
import java.lang.reflect.Method;
import java.lang.reflect.Modifier;
import java.nio.file.Files;
import java.nio.file.Path;
import java.util.ArrayList;
import java.util.List;
import java.util.Set;
import java.util.TreeSet;
import java.util.regex.Matcher;
import java.util.regex.Pattern;

/** The public face as the document has it, and those rules of ../shared/LANGUAGE.md that a program can look at. */
public final class FaceTest {
    private static final Set<String> METHODS = Set.of(
        "int set(int,int)", "int insert(int,int,int)", "int erase(int,int)", "int write(int,int,int)", "int add(int,int,int)",
        "int kill(int,int)", "int revive(int,int)", "int turn(int,int)", "int move(int,int,int)", "int sign(int)",
        "int ofRun(int,int)", "int count(int)", "int howMany(int,int,int)", "int bit(int)", "int character(int)", "int size(int)",
        "int bestCode()", "int longestLive(int)", "int find(int,int)", "int bestWrite(int)", "int unlikeMirror()", "int put(long)",
        "int wipe()", "int fault()", "int load()", "int undo()", "int save(int)", "int restore(int)");
    private static final Set<String> CONSTANTS = Set.of(
        "NO_SUCH=-1", "BAD_VALUE=-2", "BAD_TEXT=-3", "TOO_MANY=-4", "NOT_POSSIBLE=-5", "NONE=-6", "CODE=0", "SAVE_DEAD=1", "DEAD=10");
    private static final String[] RULED_OUT = {
        "\\bthrow\\b", "\\btry\\b", "\\bcatch\\b", "\\bsynchronized\\b", "\\bassert\\b", "\\bimport\\b", "\\bpackage\\b", "->", "::",
        "\\bwhile\\s*\\(true\\)", "for\\s*\\(;;\\)", "\\bSystem\\.(?!arraycopy)", "\\bThread\\b", "\\bRandom\\b",
        "\\b(equals|hashCode|toString)\\b", "\\w+Exact\\b", "\\bstatic\\s*\\{"};
    /** The names of the library that the rules let stand; the constants are in capitals, so they look otherwise. */
    private static final Set<String> LIBRARY = Set.of("Math", "Integer", "Long", "System", "Arrays", "String", "StringBuilder");
    private static final Pattern NAME_OF_CLASS = Pattern.compile("\\b[A-Z]\\w*[a-z]\\w*");
    private static final Pattern METHOD = Pattern.compile("(?m)^( +)(?:[\\w\\[\\]]+ )+\\w+\\([^;{]*\\) \\{$");
    private static final int MOST_LINES = 60, MOST_PARAMETERS = 7, MOST_FIELDS = 20;

    private static int wrong = 0;

    private FaceTest() {
    }

    private static void due(String what, Object got, Object want) {
        if (!got.equals(want)) {
            wrong++;
            System.out.println("face: " + what + ": " + got + ", due is " + want);
        }
    }

    public static void main(String[] args) throws Exception {
        due("public and final", Modifier.toString(DeadRuns.class.getModifiers()), "public final");
        methods();
        constants();
        constructors();
        classesInside();
        sizes(DeadRuns.class);
        fieldTypes(DeadRuns.class);
        for (Class<?> inside : DeadRuns.class.getDeclaredClasses()) {
            sizes(inside);
            fieldTypes(inside);
        }
        String source = withoutComments(Path.of(args.length > 0 ? args[0] : "src/main/java/DeadRuns.java"));
        ruledOut(source);
        library(source);
        lengthsOfMethods(source);
        System.out.println("face: " + (wrong == 0 ? "as the document has it" : wrong + " faults"));
        if (wrong != 0) {
            System.exit(1);
        }
    }

    private static String told(Method method) {
        List<String> types = new ArrayList<>();
        for (Class<?> type : method.getParameterTypes()) {
            types.add(type.getName());
        }
        return method.getReturnType().getName() + " " + method.getName() + "(" + String.join(",", types) + ")";
    }

    private static void methods() {
        Set<String> found = new TreeSet<>();
        Set<String> names = new TreeSet<>();
        for (Method method : DeadRuns.class.getDeclaredMethods()) {
            if (Modifier.isPrivate(method.getModifiers())) {
                names.add(method.getName());
            } else {
                found.add((Modifier.isPublic(method.getModifiers()) ? "" : "not public: ") + told(method));
            }
        }
        for (Class<?> inside : DeadRuns.class.getDeclaredClasses()) {
            for (Method method : inside.getDeclaredMethods()) {
                names.add(method.getName());
            }
        }
        due("methods", found, METHODS);
        for (String method : METHODS) {
            String name = method.substring(4, method.indexOf('('));
            due("another method has the name " + name, names.contains(name), false);
        }
    }

    private static void constants() throws Exception {
        Set<String> found = new TreeSet<>();
        for (Field field : DeadRuns.class.getDeclaredFields()) {
            int modifiers = field.getModifiers();
            if (!Modifier.isPrivate(modifiers)) {
                due("modifiers of " + field.getName(), Modifier.toString(modifiers), "public static final");
                found.add(field.getName() + "=" + field.get(null));
            }
        }
        due("constants", found, CONSTANTS);
    }

    private static void constructors() {
        Constructor<?>[] constructors = DeadRuns.class.getDeclaredConstructors();
        due("constructors", constructors.length, 1);
        due("parameters of the constructor", constructors[0].getParameterCount(), 0);
        due("modifiers of the constructor", Modifier.toString(constructors[0].getModifiers()), "public");
    }

    private static void classesInside() {
        due("at most twelve classes", DeadRuns.class.getDeclaredClasses().length < 12, true);
        for (Class<?> inside : DeadRuns.class.getDeclaredClasses()) {
            due("static: " + inside.getName(), Modifier.isStatic(inside.getModifiers()), true);
            due("public or protected: " + inside.getName(), (inside.getModifiers() & (Modifier.PUBLIC | Modifier.PROTECTED)) != 0, false);
        }
    }

    private static void sizes(Class<?> type) {
        int fields = 0;
        for (Field field : type.getDeclaredFields()) {
            fields += Modifier.isStatic(field.getModifiers()) ? 0 : 1;
        }
        due("at most some twenty fields: " + type.getName(), fields <= MOST_FIELDS, true);
        for (Method method : type.getDeclaredMethods()) {
            due("at most seven parameters: " + told(method), method.getParameterCount() <= MOST_PARAMETERS, true);
        }
    }

    private static void fieldTypes(Class<?> type) {
        for (Field field : type.getDeclaredFields()) {
            Class<?> held = field.getType();
            boolean isStatic = Modifier.isStatic(field.getModifiers());
            Class<?> element = held.isArray() ? held.getComponentType() : held;
            boolean isOwn = element == DeadRuns.class || element.getEnclosingClass() == DeadRuns.class;
            boolean mayStand = element.isPrimitive() || held == String.class || (isOwn && !isStatic);
            due("type of " + type.getName() + "." + field.getName() + " may stand", mayStand, true);
            due("static, but not final: " + field.getName(), isStatic && !Modifier.isFinal(field.getModifiers()), false);
        }
    }

    private static String withoutComments(Path source) throws Exception {
        return Files.readString(source).replaceAll("(?s)/\\*.*?\\*/|//[^\\n]*", "");
    }

    private static void ruledOut(String source) {
        for (String pattern : RULED_OUT) {
            due("the class has " + pattern, Pattern.compile(pattern).matcher(source).find(), false);
        }
    }

    private static void library(String source) {
        Set<String> strange = new TreeSet<>();
        Matcher names = NAME_OF_CLASS.matcher(source);
        while (names.find()) {
            strange.add(names.group());
        }
        strange.removeAll(LIBRARY);
        strange.remove(DeadRuns.class.getSimpleName());
        for (Class<?> inside : DeadRuns.class.getDeclaredClasses()) {
            strange.remove(inside.getSimpleName());
        }
        due("classes that are neither its own nor of the list", strange, Set.of());
    }

    /** A method ends at the first closing brace that stands as far in as its head. */
    private static void lengthsOfMethods(String source) {
        int found = 0;
        Matcher heads = METHOD.matcher(source);
        while (heads.find()) {
            found++;
            int end = source.indexOf("\n" + heads.group(1) + "}\n", heads.start());
            long lines = source.substring(heads.start(), Math.max(heads.start(), end)).lines().count() + 1;
            due("at most some sixty lines: " + heads.group().trim(), end > 0 && lines <= MOST_LINES, true);
        }
        due("the methods' heads are found", found > METHODS.size(), true);
    }
}
