import java.io.IOException;
import java.lang.reflect.Constructor;
import java.lang.reflect.Field;
import java.lang.reflect.Method;
import java.lang.reflect.Modifier;
import java.nio.file.Files;
import java.nio.file.Path;
import java.util.ArrayList;
import java.util.Arrays;
import java.util.List;
import java.util.TreeSet;
import java.util.regex.Pattern;

/** The public face, and those rules of LANGUAGE.md that can be read off the class and its source. */
public final class FaceTest {
    private static final String FACE = "game(iiii) kindOf(i) table(iii) seat(iib) kind(iii) card(ii) match(ii) "
            + "deal(iii) give(iii) bid(iiii) doubled(ii) lay(iii) revoke(iii) allowed(iii) turn(i) trick(ii) "
            + "hand(iii) left(ii) winner(i) won(iii) revokes(iii) sum(ii) tie(i) best(ii) line(iii) check(ii) "
            + "claim(iii) undo(i) replay(i) digest(i) finding(ii) trace(i) forget() count(i) status(ii)";
    private static final String CONSTANTS = "NONE=-1 UNKNOWN=-2 OUTSIDE=-3 STATE=-4";
    private static final String[] BANNED = {"throw", "try", "catch", "synchronized", "assert", "->", "::", "random",
        "Random", "currentTime", "nanoTime", "Thread", "java.io", "java.nio", "addExact", "multiplyExact", "equals", "hashCode",
        "toString", "package", "@", "static {"};
    private static int wrong = 0;

    public static void main(String[] args) throws IOException, IllegalAccessException {
        checkMembers();
        checkNestedClasses();
        checkSource();
        System.out.println(wrong == 0 ? "the face is as due" : wrong + " faults in the face");
        if (wrong != 0) {
            System.exit(1);
        }
    }

    private static void due(String what, Object got, Object want) {
        if (!got.equals(want)) {
            wrong++;
            System.out.println(what + ": " + got + ", due is " + want);
        }
    }

    private static void checkMembers() throws IllegalAccessException {
        TreeSet<String> methods = new TreeSet<>();
        TreeSet<String> names = new TreeSet<>();
        List<String> privates = new ArrayList<>();
        for (Method method : CardTables.class.getDeclaredMethods()) {
            if (Modifier.isPrivate(method.getModifiers()) || method.isSynthetic()) {
                privates.add(method.getName());
                continue;
            }
            due(method + " is public", Modifier.isPublic(method.getModifiers()), true);
            due(method + " is no static one", Modifier.isStatic(method.getModifiers()), false);
            due(method + " answers", method.getReturnType(), int.class);
            StringBuilder types = new StringBuilder();
            for (Class<?> type : method.getParameterTypes()) {
                types.append(type == int.class ? "i" : type == boolean.class ? "b" : "?");
            }
            methods.add(method.getName() + "(" + types + ")");
            names.add(method.getName());
        }
        due("methods", methods, new TreeSet<>(Arrays.asList(FACE.split(" "))));
        for (String name : privates) {
            due("a private method " + name + " has a name of its own", names.contains(name), false);
        }
        TreeSet<String> constants = new TreeSet<>();
        for (Field field : CardTables.class.getDeclaredFields()) {
            int modifiers = field.getModifiers();
            if (Modifier.isPrivate(modifiers)) {
                due(field + " is final", Modifier.isFinal(modifiers), true);
                continue;
            }
            due(field + " is public static final", modifiers, Modifier.PUBLIC | Modifier.STATIC | Modifier.FINAL);
            constants.add(field.getName() + "=" + field.getInt(null));
        }
        due("constants", constants, new TreeSet<>(Arrays.asList(CONSTANTS.split(" "))));
        Constructor<?>[] constructors = CardTables.class.getDeclaredConstructors();
        due("constructors", constructors.length, 1);
        due("the constructor takes", constructors[0].getParameterCount(), 0);
        due("the constructor is public", Modifier.isPublic(constructors[0].getModifiers()), true);
        due("the class is public and final", CardTables.class.getModifiers(), Modifier.PUBLIC | Modifier.FINAL);
    }

    private static void checkNestedClasses() {
        Class<?>[] nested = CardTables.class.getDeclaredClasses();
        due("twelve classes at most", nested.length + 1 <= 12, true);
        for (Class<?> type : nested) {
            due(type + " is static", Modifier.isStatic(type.getModifiers()), true);
            due(type + " is private", Modifier.isPrivate(type.getModifiers()), true);
            int fields = 0;
            for (Field field : type.getDeclaredFields()) {
                boolean isStatic = Modifier.isStatic(field.getModifiers());
                fields += isStatic ? 0 : 1;
                due(field + " is final, if static", !isStatic || Modifier.isFinal(field.getModifiers()), true);
            }
            due(type + " has twenty fields at most", fields <= 20, true);
            for (Method method : type.getDeclaredMethods()) {
                due(method + " takes seven at most", method.getParameterCount() <= 7, true);
                due(method + " has a name of its own", (" " + FACE).contains(" " + method.getName() + "("), false);
            }
        }
    }

    private static void checkSource() throws IOException {
        String source = Files.readString(Path.of("src/main/java/CardTables.java"));
        String code = source.replaceAll("(?s)/\\*.*?\\*/", "").replaceAll("//.*", "");
        for (String word : BANNED) {
            Pattern whole = Pattern.compile("(?<![A-Za-z])" + Pattern.quote(word) + "(?![A-Za-z])");
            due("the source has '" + word + "'", whole.matcher(code).find(), false);
        }
        for (String line : code.split("\n")) {
            if (line.startsWith("import")) {
                due("an import", line.strip(), "import java.util.Arrays;");
            }
        }
        checkLengths(code);
    }

    private static void checkLengths(String code) {
        int begun = 0;
        String[] lines = code.split("\n");
        String name = "";
        for (int i = 0; i < lines.length; i++) {
            if (lines[i].matches("(    |        )[a-z].*\\) \\{")) {
                begun = i;
                name = lines[i].strip();
            } else if (lines[i].matches("(    |        )\\}") && !name.isEmpty()) {
                due(name + " has sixty lines at most", i - begun < 60, true);
                name = "";
            }
        }
    }
}
