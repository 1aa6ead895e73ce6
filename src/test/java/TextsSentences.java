import java.util.List;
import java.util.function.ToIntFunction;

/** The sentences on texts, on undo and on saved states. */
final class TextsSentences {
    private static final int BAD_VALUE = -2, TOO_MANY = -4, NOT_POSSIBLE = -5, NONE = -6;
    private static final int[] NO_SLOT = {-1, 2, Integer.MIN_VALUE, Integer.MAX_VALUE};
    private static final String FULL = TermsSentences.TWENTY;

    private TextsSentences() {
    }

    private static void due(String call, long got, long want) {
        Check.due(call, got, want);
    }

    // ---- Texts

    @Sentence(in = "Texts", says = "The pad is a text of at most 60 characters,")
    static void textsAtMost60() {
        PunCourts x = new PunCourts();
        Check.type(x, FULL.substring(0, 59));
        due("the sixtieth", x.put('9'), 60);
        due("the next", x.put('9'), TOO_MANY);
        due("all of it is read", x.read(), 20);
    }

    @Sentence(in = "Texts", says = "applications: text = name honour { name honour }: "
            + "a name is 2 to 9 letters, an honour a digit.")
    static void textsApplications() {
        fault("ba3", NONE);
        fault("ba3ca4", NONE);
        fault("abcdefghi0abcdefghi9ba5", NONE);
        fault("ba3ca", 5);
        fault("ba34", 3);
        fault("3", 0);
        fault("b3", 1);
        fault("abcdefghij3", 9);
        fault("ba3c4", 4);
        fault("ba3abcdefghij4", 12);
        fault("ba-", 2);
        fault("ba0", NONE);
        fault("ba9", NONE);
        fault("ba/", 2);
        fault("ba:", 2);
        fault(FULL, NONE);
    }

    private static void fault(String text, int want) {
        PunCourts x = new PunCourts();
        Check.type(x, text);
        due("fault of " + text, x.fault(), want);
    }

    @Sentence(in = "Texts", says = "The fault is the index of the first character that cannot stand at its place "
            + "when the text is read from left to right;")
    static void textsTheFirstThatCannotStand() {
        fault("!", 0);
        fault("!a3", 0);
        fault("b!a!", 1);
        fault("ba!3", 2);
        fault("ba3!", 3);
        fault("ba3!!!ca4", 3);
        fault("Ba3", 0);
        fault("bA3", 1);
        fault(FULL.substring(0, 59) + "!", 59);
        fault(FULL.substring(0, 57) + "!!!", 57);
        fault(FULL.substring(0, 51) + "abcdefghi", 60);
        fault(FULL.substring(0, 48) + "abcdefghijk3", 57);
    }

    @Sentence(in = "Texts", says = "if there is none and the text ends too early (also if it is empty), "
            + "it is the length of the text.")
    static void textsEndsTooEarly() {
        fault("", 0);
        fault("b", 1);
        fault("ba", 2);
        fault("abcdefghi", 9);
        fault("ba3c", 4);
        fault("ba3ca", 5);
        fault(FULL.substring(0, 59), 59);
        fault(FULL.substring(0, 59) + "a", 60);
    }

    @Sentence(in = "Texts", says = "The constants: `NO_SUCH = -1, BAD_VALUE = -2, BAD_TEXT = -3, TOO_MANY = -4, "
            + "NOT_POSSIBLE = -5, NONE = -6`: Error codes, and NONE: there is none.")
    static void textsTheConstants() {
        due("NO_SUCH", PunCourts.NO_SUCH, -1);
        due("BAD_VALUE", PunCourts.BAD_VALUE, -2);
        due("BAD_TEXT", PunCourts.BAD_TEXT, -3);
        due("TOO_MANY", PunCourts.TOO_MANY, -4);
        due("NOT_POSSIBLE", PunCourts.NOT_POSSIBLE, -5);
        due("NONE", PunCourts.NONE, -6);
    }

    @Sentence(in = "Texts", says = "`NEAR = 0, BEARS = 1, POSTS = 2, RESTS = 3`: Settings.")
    static void textsTheSettings() {
        due("NEAR", PunCourts.NEAR, 0);
        due("BEARS", PunCourts.BEARS, 1);
        due("POSTS", PunCourts.POSTS, 2);
        due("RESTS", PunCourts.RESTS, 3);
    }

    // ---- Promise 19: put

    @Sentence(in = "Promise 19: put", says = "Appends characters to the pad. They are given as a number: "
            + "its lowest 8 bits are the last character, the next 8 bits the one before, and so on;")
    static void promise19TheirOrder() {
        PunCourts x = new PunCourts();
        due("ca4", x.put('c' << 16 | 'a' << 8 | '4'), 3);
        due("da", x.put('d' << 8 | 'a'), 5);
        due("5", x.put('5'), 6);
        due("without a fault", x.fault(), NONE);
        due("read", x.read(), 2);
        due("sound of ca", x.name(0, 4), 2);
        due("honour of ca", x.name(0, 0), 4);
        due("sound of da", x.name(1, 4), 3);
        due("honour of da", x.name(1, 0), 5);
        PunCourts y = new PunCourts();
        due("eight", y.put(0x6264666c6d623738L), 8);
        due("bdflmb7 can stand, 8 cannot", y.fault(), 7);
    }

    @Sentence(in = "Promise 19: put", says = "8 bits that are 0 mean that there are no more characters, "
            + "and everything above them has to be 0, too.")
    static void promise19NothingAboveAZero() {
        PunCourts x = new PunCourts();
        for (int zero = 0; zero < 8; zero++) {
            long characters = 0x6161616161616161L & ~(255L << 8 * zero);
            due("a zero at " + zero, x.put(characters), zero == 7 ? 7 : BAD_VALUE);
        }
        for (int bit = 16; bit < 64; bit++) {
            due("bit " + bit + " above a zero", x.put('a' | 1L << bit), BAD_VALUE);
        }
        due("seven are put", x.count(13), 7);
    }

    @Sentence(in = "Promise 19: put", says = "`characters`: 1 to 8 characters")
    static void promise19OneToEight() {
        for (int many = 1; many <= 8; many++) {
            PunCourts x = new PunCourts();
            due(many + " characters", x.put(Check.code("abcdefgh".substring(8 - many))), many);
            due("all of them letters", x.fault(), many);
        }
    }

    @Sentence(in = "Promise 19: put", says = "Returns the length of the pad then;")
    static void promise19TheLength() {
        PunCourts x = new PunCourts();
        due("1", x.put('a'), 1);
        due("1 and 2", x.put(Check.code("ba")), 3);
        due("3 and 8", x.put(Check.code("abcdefgh")), 11);
        x.wipe();
        due("wiped and 1", x.put('a'), 1);
        PunCourts y = Check.court("ba3");
        due("read and 2", y.put(Check.code("ba")), 2);
    }

    @Sentence(in = "Promise 19: put", says = "BAD_VALUE if there is no character,")
    static void promise19NoCharacter() {
        PunCourts x = new PunCourts();
        due("0", x.put(0), BAD_VALUE);
        due("no last character", x.put('a' << 8), BAD_VALUE);
        due("only the first of eight", x.put((long) 'a' << 56), BAD_VALUE);
        due("the pad", x.count(13), 0);
    }

    @Sentence(in = "Promise 19: put", says = "a code is not 33 to 126,")
    static void promise19From33To126() {
        for (int code = 1; code <= 255; code++) {
            boolean good = code >= 33 && code <= 126;
            PunCourts x = new PunCourts();
            due("code " + code, x.put(code), good ? 1 : BAD_VALUE);
            due("code " + code + " before another", x.put((long) code << 8 | 'a'), good ? 3 : BAD_VALUE);
            due("code " + code + " as the first of eight",
                    x.put((long) code << 56 | 0x61616161616161L), good ? 11 : BAD_VALUE);
            due("the length", x.count(13), good ? 11 : 0);
        }
        due("all bits", new PunCourts().put(-1), BAD_VALUE);
        due("the smallest number", new PunCourts().put(Long.MIN_VALUE), BAD_VALUE);
        due("the largest number", new PunCourts().put(Long.MAX_VALUE), BAD_VALUE);
    }

    @Sentence(in = "Promise 19: put", says = "or a bit above 8 bits that are 0 is not 0;")
    static void promise19ABitAboveAZero() {
        PunCourts x = new PunCourts();
        due("the lowest", x.put(1L << 16 | 'a'), BAD_VALUE);
        due("the highest", x.put(1L << 63 | 'a'), BAD_VALUE);
        due("a whole character", x.put('b' << 16 | 'a'), BAD_VALUE);
        due("the highest above seven zeros", x.put(1L << 63), BAD_VALUE);
        due("above five characters", x.put(1L << 48 | 0x6161616161L), BAD_VALUE);
        due("the pad", x.count(13), 0);
    }

    @Sentence(in = "Promise 19: put", says = "TOO_MANY if the pad would be longer than 60.")
    static void promise19LongerThan60() {
        for (int many = 1; many <= 8; many++) {
            PunCourts x = new PunCourts();
            Check.type(x, FULL.substring(0, 61 - many));
            long characters = Check.code("aaaaaaaa".substring(8 - many));
            due(many + " to 61", x.put(characters), TOO_MANY);
            due("nothing is put", x.count(13), 61 - many);
            if (many > 1) {
                due(many - 1 + " to 60", x.put(characters >>> 8), 60);
            }
        }
    }

    // ---- Promise 20: wipe

    @Sentence(in = "Promise 20: wipe", says = "Empties the pad, and returns the length that it had.")
    static void promise20TheLengthThatItHad() {
        PunCourts x = new PunCourts();
        due("empty", x.wipe(), 0);
        Check.type(x, "b");
        due("one", x.wipe(), 1);
        due("empty again", x.wipe(), 0);
        Check.type(x, FULL);
        due("full", x.wipe(), 60);
        due("the length then", x.count(13), 0);
        due("the fault then", x.fault(), 0);
        due("no change", x.count(14), 0);
    }

    // ---- Promise 21: fault

    @Sentence(in = "Promise 21: fault", says = "Returns the fault of the pad,")
    static void promise21TheFault() {
        PunCourts x = new PunCourts();
        due("empty", x.fault(), 0);
        x.put('b');
        due("ends too early", x.fault(), 1);
        x.put('3');
        due("a digit too early", x.fault(), 1);
        x.put('a');
        due("still the first", x.fault(), 1);
    }

    @Sentence(in = "Promise 21: fault", says = "NONE if there is none.")
    static void promise21None() {
        PunCourts x = new PunCourts();
        Check.type(x, "ba3");
        due("one name", x.fault(), NONE);
        due("asked again", x.fault(), NONE);
        x.wipe();
        Check.type(x, FULL);
        due("twenty names", x.fault(), NONE);
        x.read();
        due("none of the names is left in the pad", x.fault(), 0);
    }

    // ---- Promise 22: undo

    /** A court on which every change can be made, and the pad of which can be read. */
    private static PunCourts ready() {
        PunCourts x = Check.court("ba3pa5ca9da1");
        x.give(0, 3);
        x.issue();
        x.pass(3);
        x.save(0);
        x.give(2, 8);
        Check.type(x, "fa1");
        return x;
    }

    private static List<ToIntFunction<PunCourts>> changes() {
        return List.of(x -> x.set(PunCourts.NEAR, 8), x -> x.read(), x -> x.honour(0, 9), x -> x.withdraw(0),
                x -> x.give(3, 10), x -> x.strip(3), x -> x.issue(), x -> x.pass(99), x -> x.restore(0));
    }

    @Sentence(in = "Promise 22: undo", says = "Undoes the latest change: "
            + "everything except the pad, the slots and the history is as it was before it.")
    static void promise22AllIsAsBefore() {
        List<ToIntFunction<PunCourts>> changes = changes();
        String before = Check.state(ready());
        for (int i = 0; i < changes.size(); i++) {
            PunCourts x = ready();
            int answer = changes.get(i).applyAsInt(x);
            Check.holds("change " + i + " answers no error", answer >= 0 || answer == NONE);
            Check.holds("change " + i + " changes something", !Check.state(x).equals(before));
            due("undo change " + i, x.undo(), 5);
            Check.same("the state", Check.state(x), before);
        }
    }

    @Sentence(in = "Promise 22: undo", says = "everything except the pad, the slots and the history "
            + "is as it was before it.")
    static void promise22TheLettersAreAsBefore() {
        PunCourts x = new PunCourts();
        x.save(0);
        Check.read(x, "bat3pat3");
        x.restore(0);
        Check.read(x, "do3ma3");
        due("do and ma", x.alike(0, 1, 1), 0);
        x.undo();
        x.undo();
        due("bat and pat by their sounds", x.alike(0, 1, 0), 1);
        due("bat and pat by their letters", x.alike(0, 1, 1), 1);
    }

    @Sentence(in = "Promise 22: undo", says = "everything except the pad, the slots and the history "
            + "is as it was before it.")
    static void promise22ThePadStays() {
        PunCourts x = Check.court("ba3");
        Check.type(x, "ca4da5");
        due("the read is undone", x.undo(), 0);
        due("the pad", x.count(13), 6);
        due("is read", x.read(), 2);
        due("honour of ca", x.name(0, 0), 4);
        x.undo();
        due("a pad that was read is not filled again", x.count(13), 0);
    }

    @Sentence(in = "Promise 22: undo", says = "everything except the pad, the slots and the history "
            + "is as it was before it.")
    static void promise22TheSlotsStay() {
        PunCourts x = new PunCourts();
        x.pass(3);
        x.save(0);
        x.pass(2);
        x.save(1);
        x.undo();
        x.undo();
        due("slot 0", x.restore(0), 3);
        due("slot 1", x.restore(1), 5);
        due("back to slot 0", x.undo(), 1);
        due("days", x.count(4), 3);
    }

    @Sentence(in = "Promise 22: undo", says = "A history of at most 6 states is kept:")
    static void promise22AtMost6() {
        PunCourts x = new PunCourts();
        for (int i = 1; i <= 20; i++) {
            x.set(PunCourts.RESTS, i);
            due("after " + i, x.count(14), Math.min(i, 6));
        }
        for (int i = 5; i >= 0; i--) {
            due("undo to " + i, x.undo(), i);
            due("RESTS", x.count(PunCourts.RESTS), 14 + i);
        }
        due("no more", x.undo(), NOT_POSSIBLE);
        due("RESTS stays", x.count(PunCourts.RESTS), 14);
    }

    @Sentence(in = "Promise 22: undo", says = "each method that is a change, and returns no error, "
            + "records the state before it (also if nothing is different then);")
    static void promise22NothingDifferent() {
        PunCourts x = Check.court("ba3");
        x.set(PunCourts.NEAR, 3);
        due("the same setting", x.count(14), 2);
        x.honour(0, 3);
        due("the same honour", x.count(14), 3);
        x.issue();
        x.issue();
        due("the same map", x.count(14), 5);
        x.save(0);
        x.restore(0);
        due("what is there is restored", x.count(14), 6);
        x.undo();
        due("five are left", x.count(14), 5);
    }

    @Sentence(in = "Promise 22: undo", says = "each method that is a change, and returns no error, "
            + "records the state before it")
    static void promise22EachChange() {
        List<ToIntFunction<PunCourts>> changes = changes();
        for (int i = 0; i < changes.size(); i++) {
            PunCourts x = ready();
            x.undo();
            x.undo();
            int before = x.count(14);
            int answer = changes.get(i).applyAsInt(x);
            Check.holds("change " + i + " answers no error", answer >= 0 || answer == NONE);
            due("change " + i, x.count(14), before + 1);
        }
        PunCourts x = new PunCourts();
        x.save(0);
        x.put('a');
        x.wipe();
        x.read();
        x.pass(0);
        x.strip(0);
        due("what is no change, and errors", x.count(14), 0);
    }

    @Sentence(in = "Promise 22: undo", says = "when one more is recorded, the oldest one is dropped.")
    static void promise22TheOldestIsDropped() {
        PunCourts x = new PunCourts();
        for (int i = 1; i <= 6; i++) {
            x.pass(i);
        }
        x.issue();
        due("days", x.count(4), 21);
        int[] days = {21, 15, 10, 6, 3, 1};
        for (int i = 0; i < days.length; i++) {
            due("undo", x.undo(), 5 - i);
            due("days", x.count(4), days[i]);
        }
        due("day 0 was dropped", x.undo(), NOT_POSSIBLE);
    }

    @Sentence(in = "Promise 22: undo", says = "Returns how many changes can be undone then;")
    static void promise22HowManyThen() {
        PunCourts x = new PunCourts();
        x.pass(1);
        x.pass(2);
        due("one", x.undo(), 1);
        due("as counted", x.count(14), 1);
        x.pass(3);
        due("one again", x.undo(), 1);
        due("none", x.undo(), 0);
        due("days", x.count(4), 0);
    }

    @Sentence(in = "Promise 22: undo", says = "NOT_POSSIBLE if there is none.")
    static void promise22None() {
        PunCourts x = new PunCourts();
        due("new", x.undo(), NOT_POSSIBLE);
        x.pass(5);
        x.undo();
        due("all undone", x.undo(), NOT_POSSIBLE);
        x.pass(0);
        due("an error is not recorded", x.undo(), NOT_POSSIBLE);
        x.save(0);
        due("nor is a save", x.undo(), NOT_POSSIBLE);
    }

    // ---- Promise 23: save

    @Sentence(in = "Promise 23: save", says = "Saves everything except the pad, the history and the slots in a slot,")
    static void promise23Everything() {
        PunCourts x = ready();
        String saved = Check.state(x);
        due("save", x.save(1), 3);
        due("no change", x.count(14), 5);
        x.strip(3);
        x.honour(1, 0);
        due("restore", x.restore(1), 3);
        Check.same("the state", Check.state(x), saved);
    }

    @Sentence(in = "Promise 23: save", says = "Saves everything except the pad, the history and the slots in a slot,")
    static void promise23ExceptThePadTheHistoryAndTheSlots() {
        PunCourts x = new PunCourts();
        x.save(1);
        x.pass(1);
        Check.type(x, "ba3");
        x.save(0);
        x.wipe();
        Check.type(x, "ca");
        x.pass(2);
        x.save(1);
        x.restore(0);
        due("the pad is not brought back", x.count(13), 2);
        due("nor the history", x.count(14), 3);
        due("nor the other slot", x.restore(1), 3);
    }

    @Sentence(in = "Promise 23: save", says = "and overwrites what was saved there.")
    static void promise23Overwrites() {
        PunCourts x = Check.court("ba3");
        x.give(0, 0);
        x.save(0);
        x.save(1);
        x.undo();
        x.undo();
        due("saved over it", x.save(0), 0);
        due("restored", x.restore(0), 0);
        due("without a name", x.count(5), 0);
        due("the other slot", x.restore(1), 0);
        due("has the name", x.corner(0, 0), 0);
    }

    @Sentence(in = "Promise 23: save", says = "`slot`: 0 or 1 Returns the days;")
    static void promise23TheDays() {
        PunCourts x = new PunCourts();
        due("day 0", x.save(0), 0);
        for (int i = 0; i < 101; i++) {
            x.pass(99);
        }
        due("day 9999", x.save(1), 9999);
    }

    @Sentence(in = "Promise 23: save", says = "BAD_VALUE if there is no such slot.")
    static void promise23NoSuchSlot() {
        PunCourts x = new PunCourts();
        for (int slot : NO_SLOT) {
            due("slot " + slot, x.save(slot), BAD_VALUE);
        }
        due("nothing in slot 0", x.restore(0), NOT_POSSIBLE);
        due("nothing in slot 1", x.restore(1), NOT_POSSIBLE);
    }

    // ---- Promise 24: restore

    @Sentence(in = "Promise 24: restore", says = "Restores what was saved last in a slot, which keeps it.")
    static void promise24TheSlotKeepsIt() {
        PunCourts x = Check.court("ba3ca3");
        x.give(0, 0);
        x.save(0);
        for (int i = 0; i < 3; i++) {
            x.strip(0);
            x.give(1, 0);
            x.set(PunCourts.POSTS, 9);
            x.pass(20);
            x.honour(0, i);
            due("restore", x.restore(0), 0);
            due("name", x.corner(0, 0), 0);
            due("owed", x.count(8), 3);
            due("POSTS", x.count(PunCourts.POSTS), 2);
            due("honour", x.name(0, 0), 3);
        }
    }

    @Sentence(in = "Promise 24: restore", says = "Restores what was saved last in a slot, which keeps it.")
    static void promise24WhatWasSavedLast() {
        PunCourts x = new PunCourts();
        x.save(0);
        x.pass(1);
        x.save(0);
        x.pass(1);
        due("the later one", x.restore(0), 1);
        x.undo();
        x.undo();
        x.undo();
        due("also when its days were undone", x.restore(0), 1);
        PunCourts y = Check.court("ba3");
        y.save(0);
        y.undo();
        Check.read(y, "cathedral9");
        y.restore(0);
        due("names of the slot", y.count(5), 1);
        due("letters", y.name(0, 5), 2);
        due("sound", y.name(0, 4), 1);
        due("honour", y.name(0, 0), 3);
    }

    @Sentence(in = "Promise 24: restore", says = "Restores what was saved last in a slot, which keeps it.")
    static void promise24TheLettersToo() {
        PunCourts x = Check.court("bat3pat3");
        x.save(0);
        x.undo();
        Check.read(x, "do3ma3");
        x.restore(0);
        due("bat and pat by their sounds", x.alike(0, 1, 0), 1);
        due("bat and pat by their letters", x.alike(0, 1, 1), 1);
    }

    @Sentence(in = "Promise 24: restore", says = "This is a change.")
    static void promise24IsAChange() {
        PunCourts x = new PunCourts();
        x.save(0);
        x.pass(7);
        x.restore(0);
        due("recorded", x.count(14), 2);
        due("undone", x.undo(), 1);
        due("days", x.count(4), 7);
        Check.type(x, "ab");
        x.restore(0);
        due("the pad stays", x.count(13), 2);
    }

    @Sentence(in = "Promise 24: restore", says = "`slot`: 0 or 1 Returns the days then;")
    static void promise24TheDaysThen() {
        PunCourts x = new PunCourts();
        x.pass(99);
        x.save(0);
        x.pass(1);
        x.save(1);
        x.pass(50);
        due("slot 0", x.restore(0), 99);
        due("as counted", x.count(4), 99);
        due("slot 1", x.restore(1), 100);
        due("as counted", x.count(4), 100);
    }

    @Sentence(in = "Promise 24: restore", says = "BAD_VALUE if there is no such slot;")
    static void promise24NoSuchSlot() {
        PunCourts x = new PunCourts();
        x.save(0);
        x.save(1);
        for (int slot : NO_SLOT) {
            due("slot " + slot, x.restore(slot), BAD_VALUE);
        }
        due("no change", x.count(14), 0);
    }

    @Sentence(in = "Promise 24: restore", says = "NOT_POSSIBLE if nothing was saved in it.")
    static void promise24NothingSaved() {
        PunCourts x = new PunCourts();
        due("slot 0", x.restore(0), NOT_POSSIBLE);
        due("slot 1", x.restore(1), NOT_POSSIBLE);
        x.save(1);
        due("slot 0 still", x.restore(0), NOT_POSSIBLE);
        due("no change", x.count(14), 0);
        due("slot 1 then", x.restore(1), 0);
    }
}
