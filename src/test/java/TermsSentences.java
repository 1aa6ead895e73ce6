import java.util.List;
import java.util.function.ToIntFunction;

/** The sentences on the whole object, the conventions, the settings, the names and their sounds. */
final class TermsSentences {
    private static final int NO_SUCH = -1, BAD_VALUE = -2, BAD_TEXT = -3, TOO_MANY = -4, NOT_POSSIBLE = -5, NONE = -6;
    /** As many names as there can be, no two of which sound alike. */
    static final String TWENTY = "ba9ca9da9fa9la9ma9aa9hy9bc9bd9bf9bl9bm9cb9cd9cf9cl9cm9ab9ac9";

    private TermsSentences() {
    }

    private static void due(String call, long got, long want) {
        Check.due(call, got, want);
    }

    // ---- What it is

    @Sentence(in = "What it is", says = "An object is used for at most 512 calls after it has been made; "
            + "what later calls answer is free.")
    static void whatItIsTheLastOf512Changes() {
        PunCourts x = new PunCourts();
        for (int call = 1; call <= 510; call++) {
            due("call " + call, x.set(PunCourts.RESTS, call % 61), call == 1 ? 10 : (call - 1) % 61);
        }
        due("call 511", x.count(PunCourts.RESTS), 510 % 61);
        due("call 512", x.undo(), 5);
    }

    @Sentence(in = "What it is", says = "An object is used for at most 512 calls after it has been made; "
            + "what later calls answer is free.")
    static void whatItIsTheLastOf512LongQuestions() {
        PunCourts x = Check.court(TWENTY);
        // From the day 10 on the names 0 to 10 follow one another at the corners 0 to 9: each of these gets 30 names
        // in 300 days, which makes 30 * (3 + 9 * 4) posts, and 2 of them a day are set up.
        for (int call = 10; call <= 512; call++) {
            due("call " + call, call % 2 == 0 ? x.untilBorne(19) : x.ifPassed(300, 2), call % 2 == 0 ? NONE : 570);
        }
    }

    // ---- Terms: the conventions

    @Sentence(in = "Terms", says = "A method that fails returns one of the error codes NO_SUCH (-1), BAD_VALUE (-2), "
            + "BAD_TEXT (-3), TOO_MANY (-4) and NOT_POSSIBLE (-5)")
    static void termsTheErrorCodes() {
        PunCourts x = new PunCourts();
        due("NO_SUCH", x.strip(12), -1);
        due("BAD_VALUE", x.set(4, 0), -2);
        due("BAD_TEXT", x.read(), -3);
        x.put(Check.code("aaaaaaaa"));
        for (int i = 2; i <= 7; i++) {
            x.put(Check.code("aaaaaaaa"));
        }
        due("TOO_MANY", x.put(Check.code("aaaaa")), -4);
        due("NOT_POSSIBLE", x.undo(), -5);
    }

    @Sentence(in = "Terms", says = "it names its errors in the order in which they are checked, "
            + "and the first one that applies is returned.")
    static void termsTheFirstErrorThatApplies() {
        PunCourts x = Check.court("ba3");
        due("honour: no name, no value", x.honour(1, 10), NO_SUCH);
        due("name: no name, no value", x.name(1, 7), NO_SUCH);
        due("alike: no name, no way", x.alike(0, 1, 2), NO_SUCH);
        due("alike: no name, no way", x.alike(1, 0, -1), NO_SUCH);
        due("corner: no corner, no value", x.corner(12, 6), NO_SUCH);
        x.withdraw(0);
        due("give: refused, no corner", x.give(0, 12), NO_SUCH);
        due("restore: no slot, nothing saved", x.restore(2), BAD_VALUE);
        due("ifPassed: both out of range", x.ifPassed(0, 3), BAD_VALUE);
    }

    @Sentence(in = "Terms", says = "it names its errors in the order in which they are checked, "
            + "and the first one that applies is returned.")
    static void termsTheFirstErrorOfAFullCourt() {
        PunCourts x = lastDayAndFullPad();
        due("read: a fault, and too many names", x.read(), BAD_TEXT);
        due("put: a bad code, and no room", x.put(32), BAD_VALUE);
        due("put: no character, and no room", x.put(0), BAD_VALUE);
        due("pass: too large, and too far", x.pass(100), BAD_VALUE);
        due("pass: too small, on the last day", x.pass(0), BAD_VALUE);
    }

    /** Twenty names, the day 9999, and a pad of 60 characters that has a fault. */
    private static PunCourts lastDayAndFullPad() {
        PunCourts x = Check.court(TWENTY);
        for (int i = 0; i < 101; i++) {
            x.pass(99);
        }
        Check.type(x, TWENTY.substring(0, 59) + "x");
        return x;
    }

    /** A map, saved and past states, names that wait, are borne and were withdrawn, and a pad with a fault. */
    private static PunCourts busy() {
        PunCourts x = Check.court("ba3pa5ca9da1");
        x.save(0);
        x.set(PunCourts.RESTS, 5);
        x.give(0, 0);
        x.issue();
        x.give(2, 6);
        x.withdraw(3);
        x.pass(2);
        Check.type(x, "ba3a");
        return x;
    }

    @Sentence(in = "Terms", says = "A call that returns an error changes nothing.")
    static void termsAnErrorChangesNothing() {
        List<ToIntFunction<PunCourts>> failing = List.of(
                x -> x.set(4, 0), x -> x.set(-1, 0), x -> x.set(0, 12), x -> x.set(1, 0), x -> x.read(),
                x -> x.honour(4, 0), x -> x.honour(0, 10), x -> x.honour(0, -1), x -> x.withdraw(4),
                x -> x.withdraw(3), x -> x.give(4, 0), x -> x.give(0, 12), x -> x.give(0, 0), x -> x.give(3, 9),
                x -> x.strip(12), x -> x.strip(11), x -> x.pass(0), x -> x.pass(100), x -> x.name(4, 0),
                x -> x.name(0, 7), x -> x.alike(0, 4, 0), x -> x.alike(0, 1, 2), x -> x.corner(12, 0),
                x -> x.corner(0, 6), x -> x.why(4, 0), x -> x.why(0, 12), x -> x.count(15), x -> x.bestCorner(4),
                x -> x.untilBorne(4), x -> x.ifPassed(0, 0), x -> x.ifPassed(301, 0), x -> x.ifPassed(1, 3),
                x -> x.put(0), x -> x.put(32), x -> x.put(127), x -> x.put('a' << 16 | 'b'), x -> x.save(2),
                x -> x.save(-1), x -> x.restore(2), x -> x.restore(1));
        String state = Check.state(busy());
        String rest = Check.rest(busy());
        for (int i = 0; i < failing.size(); i++) {
            PunCourts x = busy();
            int answer = failing.get(i).applyAsInt(x);
            Check.holds("failing call " + i + " answers an error, " + answer, answer >= NOT_POSSIBLE && answer < 0);
            Check.same("the state after failing call " + i, Check.state(x), state);
            Check.same("the rest after failing call " + i, Check.rest(x), rest);
        }
    }

    @Sentence(in = "Terms", says = "A call that returns an error changes nothing.")
    static void termsAnErrorOfAFullCourtChangesNothing() {
        List<ToIntFunction<PunCourts>> failing = List.of(
                x -> x.read(), x -> x.put('a'), x -> x.put(32), x -> x.pass(1), x -> x.pass(99), x -> x.pass(100));
        String state = Check.state(lastDayAndFullPad());
        String rest = Check.rest(lastDayAndFullPad());
        for (int i = 0; i < failing.size(); i++) {
            PunCourts x = lastDayAndFullPad();
            Check.holds("failing call " + i, failing.get(i).applyAsInt(x) < 0);
            Check.same("the state after failing call " + i, Check.state(x), state);
            PunCourts y = lastDayAndFullPad();
            failing.get(i).applyAsInt(y);
            Check.same("the rest after failing call " + i, Check.rest(y), rest);
        }
    }

    @Sentence(in = "Terms", says = "NONE (-6) is not an error; it is returned only if no error applies.")
    static void termsNoneIsNotAnError() {
        PunCourts x = new PunCourts();
        due("a change that answers NONE", x.issue(), -6);
        due("stands", x.count(11), 0);
        due("and is recorded", x.count(14), 1);
    }

    @Sentence(in = "Terms", says = "NONE (-6) is not an error; it is returned only if no error applies.")
    static void termsNoneOnlyIfNoErrorApplies() {
        PunCourts x = new PunCourts();
        due("the name of no corner", x.corner(12, 0), NO_SUCH);
        due("the day of no corner", x.corner(-1, 3), NO_SUCH);
        due("what no map shows of no corner", x.corner(12, 5), NO_SUCH);
        due("the place of no name", x.name(0, 3), NO_SUCH);
        due("the best corner for no name", x.bestCorner(0), NO_SUCH);
        due("until no name is borne", x.untilBorne(0), NO_SUCH);
    }

    @Sentence(in = "Terms", says = "Everything is numbered from 0.")
    static void termsNumbersFromZero() {
        PunCourts x = Check.court("ba3");
        due("setting 0", x.set(0, 3), 3);
        due("name 0", x.honour(0, 3), 3);
        due("place 0", x.name(0, 3), 0);
        due("day 0 in slot 0", x.save(0), 0);
        due("corner 0", x.give(0, 0), 2);
        due("character 0", x.fault(), 0);
        due("day 0", x.corner(0, 3), 0);
        due("the corner 0 in a set", x.name(0, 2), 1);
    }

    // ---- Settings

    private static void range(int setting, int lowest, int highest, int first) {
        PunCourts x = new PunCourts();
        due("first", x.count(setting), first);
        due("too small", x.set(setting, lowest - 1), BAD_VALUE);
        due("too large", x.set(setting, highest + 1), BAD_VALUE);
        due("far too small", x.set(setting, Integer.MIN_VALUE), BAD_VALUE);
        due("far too large", x.set(setting, Integer.MAX_VALUE), BAD_VALUE);
        due("still the first", x.set(setting, lowest), first);
        due("the lowest", x.set(setting, highest), lowest);
        due("the highest", x.count(setting), highest);
    }

    @Sentence(in = "Settings", says = "(In parentheses: range; first value.) NEAR (0 to 11; 3): corners.")
    static void settingsNear() {
        range(PunCourts.NEAR, 0, 11, 3);
    }

    @Sentence(in = "Settings", says = "NEAR (0 to 11; 3): corners.")
    static void settingsNearAtItsEnds() {
        PunCourts x = Check.court("ba3pa3");
        x.give(0, 0);
        due("3 at first: at 3", x.why(1, 3), 4);
        due("3 at first: at 4", x.why(1, 4), 0);
        x.set(PunCourts.NEAR, 0);
        due("0: beside it", x.why(1, 1), 0);
        x.set(PunCourts.NEAR, 11);
        due("11: at the other end", x.why(1, 11), 4);
    }

    @Sentence(in = "Settings", says = "BEARS (1 to 6; 2): corners.")
    static void settingsBears() {
        range(PunCourts.BEARS, 1, 6, 2);
    }

    @Sentence(in = "Settings", says = "BEARS (1 to 6; 2): corners.")
    static void settingsBearsAtItsEnds() {
        int[] bears = {2, 1, 6};
        for (int most : bears) {
            PunCourts x = Check.court("ba3");
            due("first", x.count(PunCourts.BEARS), 2);
            x.set(PunCourts.BEARS, most);
            for (int c = 0; c < most; c++) {
                due(most + ": corner " + c, x.give(0, c), c == 0 ? 2 : 3);
            }
            due(most + ": one more", x.why(0, most), 3);
        }
    }

    @Sentence(in = "Settings", says = "POSTS (0 to 9; 2): posts.")
    static void settingsPosts() {
        range(PunCourts.POSTS, 0, 9, 2);
    }

    @Sentence(in = "Settings", says = "POSTS (0 to 9; 2): posts.")
    static void settingsPostsAtItsEnds() {
        int[] posts = {2, 0, 9};
        for (int most : posts) {
            PunCourts x = Check.court("ba3ca3da3");
            x.give(0, 1);
            x.give(1, 4);
            x.give(2, 7);
            due("owed", x.count(8), 12);
            if (most != 2) {
                x.set(PunCourts.POSTS, most);
            }
            x.pass(1);
            due(most + ": set up in a day", x.count(9), most);
        }
    }

    @Sentence(in = "Settings", says = "RESTS (0 to 60; 10): days.")
    static void settingsRests() {
        range(PunCourts.RESTS, 0, 60, 10);
    }

    @Sentence(in = "Settings", says = "RESTS (0 to 60; 10): days.")
    static void settingsRestsAtItsEnds() {
        PunCourts x = Check.court("ba3ca3");
        x.give(0, 0);
        x.give(1, 11);
        x.set(PunCourts.RESTS, 0);
        due("0: on the same day", x.why(1, 0), 0);
        x.set(PunCourts.RESTS, 60);
        x.pass(59);
        due("60: after 59 days", x.why(1, 0), 6);
        x.pass(1);
        due("60: after 60 days", x.why(1, 0), 0);
    }

    // ---- Settings: names, sounds

    @Sentence(in = "Settings", says = "A name is 2 to 9 letters, a to z.")
    static void settingsHowManyLetters() {
        due("none", faultOf("3"), 0);
        due("1 is too few", faultOf("a3"), 1);
        due("2", faultOf("az3"), NONE);
        due("9", faultOf("abcdefxyz3"), NONE);
        due("10 are too many", faultOf("abcdefwxyz3"), 9);
    }

    @Sentence(in = "Settings", says = "A name is 2 to 9 letters, a to z.")
    static void settingsWhichLetters() {
        for (char c = 33; c <= 126; c++) {
            boolean letter = c >= 'a' && c <= 'z';
            due("first letter " + c, faultOf(c + "a3"), letter ? NONE : 0);
            boolean digit = c >= '0' && c <= '9';
            due("third letter " + c, faultOf("aa" + c), letter ? 3 : digit ? NONE : 2);
        }
    }

    private static int faultOf(String text) {
        PunCourts x = new PunCourts();
        Check.type(x, text);
        return x.fault();
    }

    private static void sound(String name, int want) {
        due("sound of " + name, Check.court(name + "1").name(0, 4), want);
    }

    @Sentence(in = "Settings", says = "Its sound is made so: for each letter a sign is put: b, p: 1; "
            + "c, g, j, k, q, s, x, z: 2; d, t: 3; f, v, w: 4; l, r: 5; m, n: 6; a, e, i, o, u: 7; "
            + "h, y: none (left out)")
    static void settingsTheSignOfEachLetter() {
        String[] letters = {"hy", "bp", "cgjkqsxz", "dt", "fvw", "lr", "mn", "aeiou"};
        int seen = 0;
        for (int sign = 0; sign < letters.length; sign++) {
            for (char letter : letters[sign].toCharArray()) {
                sound("h" + letter, sign);
                sound(letter + "y", sign);
                seen++;
            }
        }
        due("letters", seen, 26);
    }

    @Sentence(in = "Settings", says = "of several alike signs side by side only one is kept")
    static void settingsAlikeSignsSideBySide() {
        sound("bb", 1);
        sound("bpbpbpbpb", 1);
        sound("cgjkqsxz", 2);
        sound("bhyb", 1);
        sound("bbddb", 131);
        sound("bdbd", 1313);
    }

    @Sentence(in = "Settings", says = "then all signs 7 but the first sign of the sound are left out.")
    static void settingsSevensAreLeftOut() {
        sound("aeiouaeio", 7);
        sound("aba", 71);
        sound("haeb", 71);
        sound("ba", 1);
        sound("hba", 1);
        sound("badeguma", 1326);
    }

    @Sentence(in = "Settings", says = "(So alike signs can stand side by side, if a 7 was between them.)")
    static void settingsAlikeSignsWithASevenBetween() {
        sound("bab", 11);
        sound("bahyab", 11);
        sound("bobobobob", 11111);
        sound("abab", 711);
        sound("baba", 11);
    }

    @Sentence(in = "Settings", says = "Two names sound alike, if their sounds are the same "
            + "(also if both have no signs).")
    static void settingsSoundsAreTheSame() {
        PunCourts x = Check.court("hy1yhhyhyhyh1ba1ap1bab1pop1");
        due("both without signs", x.alike(0, 1, 0), 1);
        due("one without signs", x.alike(0, 2, 0), 0);
        due("1 and 71", x.alike(2, 3, 0), 0);
        due("1 and 11", x.alike(2, 4, 0), 0);
        due("11 and 11", x.alike(4, 5, 0), 1);
        due("a name and itself", x.alike(3, 3, 0), 1);
        x.give(0, 0);
        due("a pun without signs", x.why(1, 1), 4);
    }

    // ---- Settings: applications, honours

    @Sentence(in = "Settings", says = "There are up to 20 names that were applied for")
    static void settingsTwentyNames() {
        PunCourts x = Check.court(TWENTY);
        due("full", x.count(5), 20);
        due("the last", x.name(19, 5), 2);
        due("none behind it", x.name(20, 5), NO_SUCH);
        Check.type(x, "oak1");
        due("one more", x.read(), TOO_MANY);
        due("still", x.count(5), 20);
    }

    @Sentence(in = "Settings", says = "with numbers from 0 in the order in which they came, which they keep.")
    static void settingsNumbersAreKept() {
        PunCourts x = Check.court("bat1cat2");
        Check.read(x, "do3");
        x.withdraw(0);
        x.honour(2, 9);
        x.give(1, 5);
        Check.read(x, "mama4");
        int[] letters = {3, 3, 2, 4};
        int[] sounds = {13, 23, 3, 66};
        for (int name = 0; name < 4; name++) {
            due("letters of " + name, x.name(name, 5), letters[name]);
            due("sound of " + name, x.name(name, 4), sounds[name]);
        }
    }

    @Sentence(in = "Settings", says = "Each has an honour, 0 to 9.")
    static void settingsEachHonour() {
        PunCourts x = Check.court("ba0ca1da2fa3la4ma5aa6hy7bc8bd9");
        for (int name = 0; name < 10; name++) {
            due("honour of " + name, x.name(name, 0), name);
        }
    }

    @Sentence(in = "Settings", says = "A name waits in the queue, is borne by one or more corners, or was withdrawn.")
    static void settingsWhereANameIs() {
        PunCourts x = Check.court("ba3");
        due("waits", x.name(0, 1), 0);
        x.give(0, 0);
        due("borne by one", x.name(0, 1), 1);
        x.give(0, 4);
        due("borne by two", x.name(0, 1), 1);
        x.strip(0);
        due("borne by the other", x.name(0, 1), 1);
        x.strip(4);
        due("waits again", x.name(0, 1), 0);
        x.withdraw(0);
        due("withdrawn", x.name(0, 1), 2);
    }
}
