import java.io.IOException;
import java.lang.reflect.Field;
import java.lang.reflect.Method;
import java.lang.reflect.Modifier;
import java.nio.charset.StandardCharsets;
import java.nio.file.Files;
import java.nio.file.Path;
import java.util.regex.Pattern;

/** What README.md says: the answers beside the calls of its first court, and every call and constant by its name. */
public final class ReadmeTest {
    private static String readme;

    public static void main(String[] args) throws IOException {
        readme = Files.readString(Path.of("README.md"), StandardCharsets.UTF_8);
        firstCourt();
        namesOfTheFace();
        Check.end();
    }

    private static void firstCourt() {
        PunCourts court = new PunCourts();
        says("put(('o' << 24) | ('a' << 16) | ('k' << 8) | '3')",
                court.put(('o' << 24) | ('a' << 16) | ('k' << 8) | '3'));
        says("put(('h' << 24) | ('a' << 16) | ('g' << 8) | '5')",
                court.put(('h' << 24) | ('a' << 16) | ('g' << 8) | '5'));
        says("read()", court.read());
        says("alike(0, 1, 0)", court.alike(0, 1, 0));
        says("give(0, 5)", court.give(0, 5));
        says("why(1, 4)", court.why(1, 4));
        says("pass(2)", court.pass(2));
    }

    private static void says(String call, int answer) {
        Pattern line = Pattern.compile("\\Q    court." + call + ";\\E +// " + answer + ": ");
        Check.holds("README.md says " + answer + " of " + call, line.matcher(readme).find());
    }

    private static void namesOfTheFace() {
        for (Method method : PunCourts.class.getDeclaredMethods()) {
            if (Modifier.isPublic(method.getModifiers())) {
                Check.holds("names the call " + method.getName(), readme.contains("`" + method.getName() + "`"));
            }
        }
        for (Field field : PunCourts.class.getDeclaredFields()) {
            if (Modifier.isPublic(field.getModifiers())) {
                Check.holds("names " + field.getName(), readme.contains(field.getName()));
            }
        }
    }
}
