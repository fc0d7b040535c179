import java.io.IOException;
import java.lang.reflect.Constructor;
import java.lang.reflect.Field;
import java.lang.reflect.Method;
import java.lang.reflect.Modifier;
import java.nio.charset.StandardCharsets;
import java.nio.file.Files;
import java.nio.file.Path;
import java.util.Arrays;
import java.util.List;
import java.util.Set;
import java.util.TreeSet;
import java.util.regex.Matcher;
import java.util.regex.Pattern;

/** The face of the class, and those rules of ../shared/LANGUAGE.md that can be seen in the source or the class. */
public final class LanguageTest {
    private static final Path SOURCE = Path.of("src/main/java/FeedDesk.java");
    private static final Set<String> METHODS = Set.of("setChannel 3", "setGroup 3", "setSend 3", "setOwner 3",
        "setReturn 2", "store 1", "recall 2", "run 1", "reset 0", "undo 0", "append 1", "clearText 0", "load 0", "count 1",
        "channel 2", "group 2", "feed 2", "send 3", "scene 2", "why 1", "path 3", "loudest 2", "loops 0", "hearers 1",
        "outputIn 2", "cut 1");
    private static final Set<String> CONSTANTS = Set.of("INVALID_ARGUMENT", "ILLEGAL_STATE", "CAPACITY_EXCEEDED", "NONE");
    private static final List<String> BANNED = List.of("throw", "throws", "try", "catch", "finally", "synchronized",
        "assert", "import", "package", "var", "float", "double", "Object", "System.nanoTime", "System.currentTimeMillis",
        "Thread", "Random", "protected", "volatile", "transient", "native", "equals", "hashCode", "toString", "->", "::");
    private static final Checks checks = new Checks();

    private LanguageTest() {
    }

    public static void main(String[] arguments) throws IOException {
        face();
        classes();
        source(Files.readString(SOURCE, StandardCharsets.ISO_8859_1));
        checks.finish();
    }

    private static void face() {
        checks.part("the face");
        checks.holds("the class is public and final", (FeedDesk.class.getModifiers() & 17) == 17);
        Constructor<?>[] constructors = FeedDesk.class.getDeclaredConstructors();
        checks.due("constructors", constructors.length, 1);
        checks.holds("it is public and takes nothing",
            Modifier.isPublic(constructors[0].getModifiers()) && constructors[0].getParameterCount() == 0);
        Set<String> methods = new TreeSet<>();
        for (Method method : FeedDesk.class.getDeclaredMethods()) {
            if (Modifier.isPrivate(method.getModifiers())) continue;
            methods.add(method.getName() + " " + method.getParameterCount());
            boolean numbers = method.getReturnType() == int.class
                && Arrays.stream(method.getParameterTypes()).allMatch(type -> type == int.class);
            checks.holds(method + " is public, of an object, and of ints",
                Modifier.isPublic(method.getModifiers()) && !Modifier.isStatic(method.getModifiers()) && numbers);
        }
        checks.same("methods", methods.toString(), new TreeSet<>(METHODS).toString());
        Set<String> constants = new TreeSet<>();
        for (Field field : FeedDesk.class.getDeclaredFields()) {
            if (Modifier.isPrivate(field.getModifiers())) continue;
            constants.add(field.getName());
            checks.due(field + " is public, static and final", field.getModifiers(), 25);
        }
        checks.same("constants", constants.toString(), new TreeSet<>(CONSTANTS).toString());
    }

    private static void classes() {
        Class<?>[] inside = FeedDesk.class.getDeclaredClasses();
        checks.part("classes");
        checks.holds("at most twelve", inside.length + 1 <= 12);
        for (Class<?> one : inside) {
            checks.holds(one + " is static", Modifier.isStatic(one.getModifiers()));
            checks.holds(one + " is not public", !Modifier.isPublic(one.getModifiers()));
            oneClass(one);
        }
        oneClass(FeedDesk.class);
    }

    private static void oneClass(Class<?> one) {
        int fields = 0;
        for (Field field : one.getDeclaredFields()) {
            boolean isStatic = Modifier.isStatic(field.getModifiers());
            if (isStatic) checks.holds(field + " is final", Modifier.isFinal(field.getModifiers()));
            else fields++;
        }
        checks.holds(one + " has at most twenty fields", fields <= 20);
        for (Method method : one.getDeclaredMethods()) {
            checks.holds(method + " has at most seven parameters", method.getParameterCount() <= 7);
            checks.holds(method + " is no lambda", !method.isSynthetic());
            if (Modifier.isPublic(method.getModifiers())) continue;
            checks.holds(method + " does not bear the name of a public one",
                METHODS.stream().noneMatch(name -> name.startsWith(method.getName() + " ")));
        }
    }

    private static void source(String whole) {
        checks.part("the source");
        checks.holds("signs 1 to 127", whole.chars().allMatch(sign -> sign >= 1 && sign <= 127));
        String code = whole.replaceAll("(?s)/\\*.*?\\*/", "").replaceAll("//[^\n]*", "");
        for (String word : BANNED) {
            boolean isName = Character.isLetter(word.charAt(0));
            Pattern pattern = Pattern.compile(isName ? "\\b" + Pattern.quote(word) + "\\b" : Pattern.quote(word));
            checks.holds("without '" + word + "'", !pattern.matcher(code).find());
        }
        noObjectsInCalls(code);
        shortMethods(whole);
    }

    /** Rule 12 in its strictest form: objects and arrays are made with the desk, and in no call. */
    private static void noObjectsInCalls(String code) {
        for (String line : code.split("\n")) {
            if (!line.matches(".*\\bnew\\b.*")) continue;
            boolean isField = line.matches(" +private final \\S+ \\w+ = new .*;");
            boolean isHistory = line.contains("kept[place] = new State();");
            checks.holds("made with the desk: " + line.trim(), isField || isHistory);
        }
    }

    private static void shortMethods(String whole) {
        Matcher body = Pattern.compile("(?m)^( +)[\\w ]*[\\w\\[\\]]+ \\w+\\([^;]*\\) \\{\n(?s:(.*?))^\\1\\}").matcher(whole);
        int methods = 0;
        while (body.find()) {
            methods++;
            checks.holds("at most sixty lines: " + body.group().lines().findFirst().orElse(""),
                body.group().lines().count() <= 60);
        }
        checks.holds("methods were found", methods > 50);
    }
}
