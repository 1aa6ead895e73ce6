import java.io.IOException;
import java.lang.reflect.Constructor;
import java.lang.reflect.Field;
import java.lang.reflect.Method;
import java.lang.reflect.Modifier;
import java.nio.charset.StandardCharsets;
import java.nio.file.Files;
import java.nio.file.Path;
import java.util.Set;
import java.util.TreeSet;
import java.util.regex.Matcher;
import java.util.regex.Pattern;

/** The public face, and those rules of LANGUAGE.md that can be seen in the text of the class. */
public final class LanguageTest {
    private static final Path SOURCE = Path.of("src/main/java/PunCourts.java");
    private static final Set<String> METHODS = Set.of(
            "set(int,int)", "read()", "honour(int,int)", "withdraw(int)", "give(int,int)", "strip(int)", "issue()",
            "pass(int)", "name(int,int)", "alike(int,int,int)", "corner(int,int)", "why(int,int)", "count(int)",
            "bestCorner(int)", "untilBorne(int)", "untilPosted()", "ifPassed(int,int)", "put(long)", "wipe()",
            "fault()", "undo()", "save(int)", "restore(int)");
    private static final Set<String> CONSTANTS = Set.of("NO_SUCH", "BAD_VALUE", "BAD_TEXT", "TOO_MANY",
            "NOT_POSSIBLE", "NONE", "NEAR", "BEARS", "POSTS", "RESTS");
    private static final String[] BARRED = {"\\b(throw|throws|try|catch|synchronized|assert|import|package|native)\\b",
        "->", "::", "\\bstatic\\s*\\{", "\\b(protected|volatile|transient|strictfp|var)\\b", "\\bObject\\b",
        "\\b(System\\.(?!arraycopy))", "\\bMath\\.\\w*Exact\\b", "\"", "\\[\\]\\[\\]"};

    public static void main(String[] args) throws IOException {
        face();
        String text = Files.readString(SOURCE, StandardCharsets.ISO_8859_1);
        Check.holds("only plain signs", text.chars().allMatch(c -> c == '\n' || c >= 32 && c < 127));
        String code = text.replaceAll("(?s)/\\*.*?\\*/", "").replaceAll("//[^\n]*", "");
        for (String barred : BARRED) {
            Matcher found = Pattern.compile(barred).matcher(code);
            Check.holds("no " + barred, !found.find());
        }
        methodsAreShort(code);
        Check.end();
    }

    private static void face() {
        Set<String> open = new TreeSet<>();
        Set<String> hidden = new TreeSet<>();
        for (Method m : PunCourts.class.getDeclaredMethods()) {
            if (Modifier.isPrivate(m.getModifiers())) {
                hidden.add(m.getName());
            } else if (!m.isSynthetic()) {
                Check.holds(m.getName() + " is public", Modifier.isPublic(m.getModifiers()));
                Check.holds(m.getName() + " answers an int", m.getReturnType() == int.class);
                StringBuilder types = new StringBuilder();
                for (Class<?> type : m.getParameterTypes()) {
                    types.append(types.length() == 0 ? "" : ",").append(type.getName());
                }
                open.add(m.getName() + "(" + types + ")");
            }
        }
        Check.holds("the methods of the face: " + open, open.equals(METHODS));
        for (Class<?> inside : PunCourts.class.getDeclaredClasses()) {
            Check.holds(inside + " is static", Modifier.isStatic(inside.getModifiers()));
            Check.holds(inside + " has few fields", inside.getDeclaredFields().length <= 20);
            for (Method m : inside.getDeclaredMethods()) {
                hidden.add(m.getName());
            }
        }
        for (String method : METHODS) {
            String name = method.substring(0, method.indexOf('('));
            Check.holds("no hidden method " + name, !hidden.contains(name));
        }
        Set<String> constants = new TreeSet<>();
        for (Field f : PunCourts.class.getDeclaredFields()) {
            if (Modifier.isPublic(f.getModifiers())) {
                constants.add(f.getName());
            } else {
                Check.holds(f + " is private", Modifier.isPrivate(f.getModifiers()));
            }
            if (Modifier.isStatic(f.getModifiers())) {
                Check.holds(f + " is final", Modifier.isFinal(f.getModifiers()));
            }
        }
        Check.holds("the constants of the face: " + constants, constants.equals(CONSTANTS));
        for (Constructor<?> c : PunCourts.class.getDeclaredConstructors()) {
            Check.holds("the constructor", Modifier.isPublic(c.getModifiers()) && c.getParameterCount() == 0);
        }
        int kind = PunCourts.class.getModifiers();
        Check.holds("public and final", Modifier.isPublic(kind) && Modifier.isFinal(kind));
    }

    private static void methodsAreShort(String code) {
        int lines = 0;
        for (String line : code.split("\n")) {
            boolean head = line.matches("( {4}| {8})[^ ].*\\) \\{") && !line.matches(" *(if|for|while|switch).*");
            lines = head ? 0 : lines + 1;
            if (line.matches("( {4}| {8})\\}")) {
                Check.holds("a method of " + lines + " lines before " + line, lines <= 60);
                lines = -1000;
            }
        }
    }
}
