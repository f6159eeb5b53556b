import java.io.IOException;
import java.lang.reflect.Constructor;
import java.lang.reflect.Field;
import java.lang.reflect.Member;
import java.lang.reflect.Method;
import java.lang.reflect.Modifier;
import java.nio.file.Files;
import java.nio.file.Path;
import java.util.ArrayList;
import java.util.Arrays;
import java.util.List;
import java.util.Set;
import java.util.TreeSet;
import java.util.regex.Matcher;
import java.util.regex.Pattern;

/** What of LANGUAGE.md can be seen from outside: the face, words that are left out, sizes. */
public final class LanguageTest {
    private static final Path PROGRAM = Path.of("src/main/java/LoafGates.java");
    private static final String[] FACE = {"winter 4", "ofComer 2", "ofGate 2", "show 2", "lead 2", "bake 2",
        "manner 1", "chalk 1", "day 5", "know 2", "far 2", "lantern 2", "best 0", "without 1", "gain 1", "needs 1",
        "parted 1", "given 0", "settles 1", "more 1", "reading 2", "back 1", "kinds 1", "shows 1", "chalks 0",
        "odds 2", "sheet 3", "lose 1", "put 3", "cell 3", "copy 5", "tell 1", "greet 1", "as 2", "trace 0", "fault 0",
        "many 1"};
    private static final Set<String> CONSTANTS = Set.of("UNKNOWN", "OUTSIDE", "STATE", "FULL", "NONE", "LOST");
    private static final Set<String> LONG_ANSWERS = Set.of("odds", "cell");
    private static final String LEFT_OUT = "\\b(throw|throws|try|catch|synchronized|assert|import|package|var|"
            + "protected|hashCode|toString|equals|Object|Random|Thread|volatile|native|strictfp)\\b|->|::|Exact\\b";
    private static final Check check = new Check();

    public static void main(String[] args) throws IOException {
        face();
        noOtherMembers();
        namesAreFree();
        fieldsAndClasses();
        String code = withoutComments(Files.readString(PROGRAM));
        leftOut(code);
        shortMethods(code);
        check.end();
    }

    private static void face() {
        check.holds("public final", Modifier.isPublic(LoafGates.class.getModifiers())
                && Modifier.isFinal(LoafGates.class.getModifiers()));
        Set<String> found = new TreeSet<>();
        for (Method m : LoafGates.class.getDeclaredMethods()) {
            if (!Modifier.isPublic(m.getModifiers())) continue;
            found.add(m.getName() + " " + m.getParameterCount());
            Class<?> answer = LONG_ANSWERS.contains(m.getName()) ? long.class : int.class;
            check.holds("answer of " + m.getName(), m.getReturnType() == answer);
            for (Class<?> p : m.getParameterTypes()) check.holds("an int of " + m.getName(), p == int.class);
        }
        check.holds("the face is " + found, found.equals(new TreeSet<>(Arrays.asList(FACE))));
    }

    private static boolean isOpen(Member m) {
        return !Modifier.isPrivate(m.getModifiers());
    }

    private static void noOtherMembers() {
        for (Method m : LoafGates.class.getDeclaredMethods()) {
            check.holds(m + " is public or private", !isOpen(m) || Modifier.isPublic(m.getModifiers()));
        }
        Set<String> open = new TreeSet<>();
        for (Field f : LoafGates.class.getDeclaredFields()) if (isOpen(f)) open.add(f.getName());
        check.holds("constants are " + open, open.equals(new TreeSet<>(CONSTANTS)));
        Constructor<?>[] made = LoafGates.class.getDeclaredConstructors();
        check.same("constructors", made.length, 1);
        check.same("its parameters", made[0].getParameterCount(), 0);
    }

    private static void namesAreFree() {
        Set<String> names = new TreeSet<>();
        for (String of : FACE) names.add(of.substring(0, of.indexOf(' ')));
        List<Class<?>> all = new ArrayList<>(Arrays.asList(LoafGates.class.getDeclaredClasses()));
        all.add(LoafGates.class);
        for (Class<?> c : all) {
            for (Method m : c.getDeclaredMethods()) {
                boolean ofFace = c == LoafGates.class && Modifier.isPublic(m.getModifiers());
                check.holds(m + " bears a name of the face", ofFace || !names.contains(m.getName()));
                check.holds(m + " has seven parameters at most", m.getParameterCount() <= 7);
            }
        }
    }

    private static void fieldsAndClasses() {
        Class<?>[] inside = LoafGates.class.getDeclaredClasses();
        check.holds("classes: " + inside.length, inside.length <= 11);
        List<Class<?>> all = new ArrayList<>(Arrays.asList(inside));
        all.add(LoafGates.class);
        for (Class<?> c : all) {
            check.holds(c + " is static", c == LoafGates.class || Modifier.isStatic(c.getModifiers()));
            int own = 0;
            for (Field f : c.getDeclaredFields()) {
                if (Modifier.isStatic(f.getModifiers())) check.holds(f + " is final", Modifier.isFinal(f.getModifiers()));
                else own++;
            }
            check.holds(c + " has fields: " + own, own <= 20);
        }
    }

    private static String withoutComments(String code) {
        return code.replaceAll("(?s)/\\*.*?\\*/", "").replaceAll("//[^\n]*", "");
    }

    private static void leftOut(String code) {
        Matcher m = Pattern.compile(LEFT_OUT).matcher(code);
        while (m.find()) check.holds("without " + m.group(), false);
        for (int i = 0; i < code.length(); i++) check.holds("sign " + i, code.charAt(i) < 128);
    }

    private static void shortMethods(String code) {
        int from = -1;
        String[] lines = code.split("\n");
        for (int k = 0; k < lines.length; k++) {
            if (lines[k].matches("( {4}| {8})\\w.*\\) \\{")) from = k;
            if (lines[k].matches("( {4}| {8})\\}") && from >= 0) {
                check.holds("short: " + lines[from].trim(), k - from <= 60);
                from = -1;
            }
        }
    }
}
