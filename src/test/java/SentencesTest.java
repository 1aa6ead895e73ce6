import java.io.IOException;
import java.lang.reflect.InvocationTargetException;
import java.lang.reflect.Method;
import java.nio.charset.StandardCharsets;
import java.nio.file.Files;
import java.nio.file.Path;
import java.util.Arrays;
import java.util.Comparator;
import java.util.LinkedHashMap;
import java.util.Map;
import java.util.regex.Matcher;
import java.util.regex.Pattern;

/**
 * Runs the tests of single sentences, each of which names the words of the document that it stands for.
 * It also looks whether these words still stand there, and whether the document names a boundary without a test.
 */
public final class SentencesTest {
    private static final Path DOCUMENT = Path.of("../shared/DOC.md");
    private static final Class<?>[] TESTS = {
        TermsSentences.class, CornersSentences.class, ChangesSentences.class, AnswersSentences.class,
        WhatIfSentences.class, TextsSentences.class};
    /** Words by which the document names a boundary; the parts without promises are left out. */
    private static final Pattern BOUNDARY = Pattern.compile(
            "\\b(NO_SUCH|BAD_VALUE|BAD_TEXT|TOO_MANY|NOT_POSSIBLE|NONE|\\d+ to \\d+|at most|up to|fewer|more|above"
            + "|longer|too|empty|emptied|overwrites|dropped|oldest|latest|lowest|highest|higher|without|none|no|only"
            + "|first|each|this is a change|nothing|otherwise|if)\\b", Pattern.CASE_INSENSITIVE);
    private static final String[] WITHOUT_PROMISES = {"The public face", "Not promised", "PunCourts"};

    private static final Map<String, String> SECTIONS = new LinkedHashMap<>();
    /** The text of each section with the words that have a test blotted out. */
    private static final Map<String, StringBuilder> LEFT = new LinkedHashMap<>();

    public static void main(String[] args) throws IOException, IllegalAccessException {
        readDocument();
        boolean list = args.length > 0 && args[0].equals("list");
        for (Class<?> tests : TESTS) {
            Method[] methods = tests.getDeclaredMethods();
            Arrays.sort(methods, Comparator.comparing(Method::getName));
            for (Method method : methods) {
                Sentence sentence = method.getAnnotation(Sentence.class);
                if (sentence != null) {
                    if (list) {
                        System.out.println(tests.getName() + "." + method.getName() + ": " + told(sentence));
                    }
                    run(method, sentence);
                }
            }
        }
        Check.about("");
        for (String section : LEFT.keySet()) {
            boundariesLeft(section);
        }
        Check.end();
    }

    private static String told(Sentence sentence) {
        return sentence.in() + ", \"" + sentence.says() + "\"";
    }

    private static void run(Method method, Sentence sentence) throws IllegalAccessException {
        Check.about(method.getName() + " (" + told(sentence) + ")");
        Check.holds("is named by its section", method.getName().startsWith(start(sentence.in())));
        Check.holds("stands in the document", blotOut(sentence));
        int before = Check.checked();
        method.setAccessible(true);
        try {
            method.invoke(null);
        } catch (InvocationTargetException e) {
            Check.holds("threw " + e.getCause(), false);
        }
        Check.holds("looks at something", Check.checked() > before);
    }

    /** How the names of the tests of a section start: promise02 for "Promise 2: set", whatItIs for "What it is". */
    private static String start(String section) {
        Matcher promise = Pattern.compile("Promise (\\d+): .*").matcher(section);
        if (promise.matches()) {
            return String.format("promise%02d", Integer.valueOf(promise.group(1)));
        }
        StringBuilder start = new StringBuilder();
        for (String word : section.split(" ")) {
            String tail = word.substring(1).toLowerCase();
            start.append(start.length() == 0 ? word.substring(0, 1).toLowerCase() : word.substring(0, 1).toUpperCase());
            start.append(tail);
        }
        return start.toString();
    }

    private static void readDocument() throws IOException {
        String text = Files.readString(DOCUMENT, StandardCharsets.UTF_8).replaceAll("(?s)```.*?```", "");
        for (String part : text.split("(?m)^#+ ")) {
            String[] headAndBody = part.split("\n", 2);
            if (headAndBody.length == 2) {
                String body = headAndBody[1].replaceAll("\\s+", " ").trim();
                SECTIONS.put(headAndBody[0].trim(), body);
                LEFT.put(headAndBody[0].trim(), new StringBuilder(body));
            }
        }
        LEFT.keySet().removeAll(Arrays.asList(WITHOUT_PROMISES));
    }

    private static boolean blotOut(Sentence sentence) {
        String body = SECTIONS.getOrDefault(sentence.in(), "");
        StringBuilder left = LEFT.get(sentence.in());
        boolean found = false;
        for (int at = body.indexOf(sentence.says()); at >= 0; at = body.indexOf(sentence.says(), at + 1)) {
            found = true;
            for (int i = at; left != null && i < at + sentence.says().length(); i++) {
                left.setCharAt(i, '.');
            }
        }
        return found;
    }

    private static void boundariesLeft(String section) {
        Matcher boundary = BOUNDARY.matcher(LEFT.get(section));
        while (boundary.find()) {
            String body = SECTIONS.get(section);
            String near = body.substring(Math.max(0, boundary.start() - 30), Math.min(body.length(), boundary.end() + 30));
            Check.holds("a test for " + section + ", \".." + near + "..\"", false);
        }
    }
}
