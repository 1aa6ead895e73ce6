/** The sentences of the promises on a new object and on the calls that change it. */
final class ChangesSentences {
    private static final int NO_SUCH = -1, BAD_VALUE = -2, BAD_TEXT = -3, TOO_MANY = -4, NOT_POSSIBLE = -5, NONE = -6;
    private static final int[] NO_INDEX = {-1, Integer.MIN_VALUE, Integer.MAX_VALUE};

    private ChangesSentences() {
    }

    private static void due(String call, long got, long want) {
        Check.due(call, got, want);
    }

    /** That the latest call was recorded as a change, the first one behind those of a history of this length. */
    private static void recorded(PunCourts x, int before) {
        due("how many can be undone", x.count(14), before + 1);
        due("undo it", x.undo(), before);
    }

    // ---- Promise 1: A new object

    @Sentence(in = "Promise 1: A new object", says = "Creates a court without applications, on the day 0, "
            + "without a map.")
    static void promise01WithoutApplications() {
        PunCourts x = new PunCourts();
        due("names", x.count(5), 0);
        due("names that wait", x.count(6), 0);
        due("name 0", x.name(0, 0), NO_SUCH);
        due("corners that bear one", x.count(7), 0);
        due("names given", x.count(10), 0);
    }

    @Sentence(in = "Promise 1: A new object", says = "on the day 0,")
    static void promise01OnTheDay0() {
        due("days", new PunCourts().count(4), 0);
        due("days saved", new PunCourts().save(0), 0);
    }

    @Sentence(in = "Promise 1: A new object", says = "without a map.")
    static void promise01WithoutAMap() {
        PunCourts x = new PunCourts();
        due("wrong on the map", x.count(11), NONE);
        for (int c = 0; c < 12; c++) {
            due("shown at " + c, x.corner(c, 5), NONE);
        }
        due("the map before", x.issue(), NONE);
    }

    @Sentence(in = "Promise 1: A new object", says = "Creates a court")
    static void promise01WithNothingElse() {
        PunCourts x = new PunCourts();
        due("owed", x.count(8), 0);
        due("set up", x.count(9), 0);
        due("the pad", x.count(13), 0);
        due("the history", x.count(14), 0);
        due("slot 0", x.restore(0), NOT_POSSIBLE);
        due("slot 1", x.restore(1), NOT_POSSIBLE);
    }

    // ---- Promise 2: set

    @Sentence(in = "Promise 2: set", says = "Changes a setting. This is a change.")
    static void promise02IsAChange() {
        PunCourts x = new PunCourts();
        x.set(PunCourts.NEAR, 5);
        recorded(x, 0);
        due("undone", x.count(PunCourts.NEAR), 3);
        x.set(PunCourts.NEAR, 3);
        recorded(x, 0);
    }

    @Sentence(in = "Promise 2: set", says = "Returns the previous value;")
    static void promise02ThePreviousValue() {
        int[] first = {3, 2, 2, 10};
        for (int setting = 0; setting < 4; setting++) {
            PunCourts x = new PunCourts();
            due("the first", x.set(setting, 1), first[setting]);
            due("one that was set", x.set(setting, 6), 1);
            due("the same again", x.set(setting, 6), 6);
            for (int other = 0; other < 4; other++) {
                due("setting " + other, x.count(other), other == setting ? 6 : first[other]);
            }
        }
    }

    @Sentence(in = "Promise 2: set", says = "BAD_VALUE if there is no such setting,")
    static void promise02NoSuchSetting() {
        PunCourts x = new PunCourts();
        due("setting 4", x.set(4, 1), BAD_VALUE);
        for (int setting : NO_INDEX) {
            due("setting " + setting, x.set(setting, 1), BAD_VALUE);
        }
        due("no change", x.count(14), 0);
    }

    @Sentence(in = "Promise 2: set", says = "or value is out of its range.")
    static void promise02OutOfItsRange() {
        int[] tooSmall = {-1, 0, -1, -1};
        int[] tooLarge = {12, 7, 10, 61};
        for (int setting = 0; setting < 4; setting++) {
            PunCourts x = new PunCourts();
            due("too small for " + setting, x.set(setting, tooSmall[setting]), BAD_VALUE);
            due("too large for " + setting, x.set(setting, tooLarge[setting]), BAD_VALUE);
            due("smallest for " + setting, x.set(setting, Integer.MIN_VALUE), BAD_VALUE);
            due("largest for " + setting, x.set(setting, Integer.MAX_VALUE), BAD_VALUE);
            due("no change", x.count(14), 0);
            Check.holds("the smallest", x.set(setting, tooSmall[setting] + 1) >= 0);
            Check.holds("the largest", x.set(setting, tooLarge[setting] - 1) >= 0);
        }
    }

    // ---- Promise 3: read

    @Sentence(in = "Promise 3: read", says = "The names of the pad are applied for, and the pad is emptied.")
    static void promise03ThePadIsEmptied() {
        PunCourts x = Check.court("bat3ca5");
        due("the pad", x.count(13), 0);
        due("letters", x.name(0, 5), 3);
        due("honour", x.name(0, 0), 3);
        due("letters", x.name(1, 5), 2);
        due("honour", x.name(1, 0), 5);
        due("it waits", x.name(1, 1), 0);
        due("never given", x.name(1, 6), 0);
        due("put anew", x.put('a'), 1);
    }

    @Sentence(in = "Promise 3: read", says = "This is a change.")
    static void promise03IsAChange() {
        PunCourts x = Check.court("ba3");
        recorded(x, 0);
        due("no names", x.count(5), 0);
        due("the pad stays empty", x.count(13), 0);
    }

    @Sentence(in = "Promise 3: read", says = "Returns how many names there are then;")
    static void promise03HowManyNames() {
        PunCourts x = new PunCourts();
        Check.type(x, "ba3");
        due("one", x.read(), 1);
        Check.type(x, "ca3da3");
        due("two more", x.read(), 3);
        x.withdraw(0);
        Check.type(x, "fa3");
        due("with one that was withdrawn", x.read(), 4);
    }

    @Sentence(in = "Promise 3: read", says = "BAD_TEXT if the pad has a fault;")
    static void promise03Faults() {
        String[] texts = {"", "b", "ba", "b3", "3", "ba3c", "ba3ca", "ba33", "Ba3", "ba!", "abcdefghi", "abcdefghij3"};
        for (String text : texts) {
            PunCourts x = new PunCourts();
            Check.type(x, text);
            due("read of " + text, x.read(), BAD_TEXT);
            due("the pad stays", x.count(13), text.length());
            due("no names", x.count(5), 0);
            due("no change", x.count(14), 0);
        }
    }

    @Sentence(in = "Promise 3: read", says = "TOO_MANY if there would be more than 20.")
    static void promise03MoreThan20() {
        PunCourts x = Check.court(TermsSentences.TWENTY.substring(0, 54));
        Check.type(x, "ba3ca3da3");
        due("18 and 3", x.read(), TOO_MANY);
        due("the pad stays", x.count(13), 9);
        due("names stay", x.count(5), 18);
        due("no change", x.count(14), 1);
        x.wipe();
        Check.type(x, "ba3ca3");
        due("18 and 2", x.read(), 20);
        Check.type(x, "ba3");
        due("20 and 1", x.read(), TOO_MANY);
        x.withdraw(0);
        due("20 and 1, though one was withdrawn", x.read(), TOO_MANY);
        x.undo();
        x.undo();
        due("18 and 1", x.read(), 19);
    }

    @Sentence(in = "Promise 3: read", says = "TOO_MANY if there would be more than 20.")
    static void promise03TwentyAtOnce() {
        PunCourts x = new PunCourts();
        Check.type(x, TermsSentences.TWENTY);
        due("20", x.read(), 20);
        Check.type(x, TermsSentences.TWENTY);
        due("40", x.read(), TOO_MANY);
        due("the full pad stays", x.count(13), 60);
    }

    // ---- Promise 4: honour

    @Sentence(in = "Promise 4: honour", says = "Changes the honour of a name. This is a change.")
    static void promise04IsAChange() {
        PunCourts x = Check.court("ba3");
        x.honour(0, 5);
        recorded(x, 1);
        due("undone", x.name(0, 0), 3);
        x.honour(0, 3);
        recorded(x, 1);
    }

    @Sentence(in = "Promise 4: honour", says = "`honour`: 0 to 9")
    static void promise04From0To9() {
        PunCourts x = Check.court("ba3");
        due("0", x.honour(0, 0), 3);
        due("9", x.honour(0, 9), 0);
        due("is 9", x.name(0, 0), 9);
    }

    @Sentence(in = "Promise 4: honour", says = "Returns the previous one;")
    static void promise04ThePreviousOne() {
        PunCourts x = Check.court("ba3ca7");
        due("as applied for", x.honour(0, 4), 3);
        due("as changed", x.honour(0, 4), 4);
        due("the other", x.honour(1, 0), 7);
        x.withdraw(1);
        due("of one that was withdrawn", x.honour(1, 1), 0);
        x.give(0, 0);
        due("of one that is borne", x.honour(0, 1), 4);
    }

    @Sentence(in = "Promise 4: honour", says = "NO_SUCH if there is no such name;")
    static void promise04NoSuchName() {
        due("no names", new PunCourts().honour(0, 1), NO_SUCH);
        PunCourts x = Check.court("ba3");
        due("name 1", x.honour(1, 1), NO_SUCH);
        for (int name : NO_INDEX) {
            due("name " + name, x.honour(name, 1), NO_SUCH);
            due("name " + name + " and no honour", x.honour(name, 10), NO_SUCH);
        }
        PunCourts full = Check.court(TermsSentences.TWENTY);
        due("name 19", full.honour(19, 1), 9);
        due("name 20", full.honour(20, 1), NO_SUCH);
    }

    @Sentence(in = "Promise 4: honour", says = "BAD_VALUE if honour is out of range.")
    static void promise04OutOfRange() {
        PunCourts x = Check.court("ba3");
        due("10", x.honour(0, 10), BAD_VALUE);
        for (int honour : NO_INDEX) {
            due("honour " + honour, x.honour(0, honour), BAD_VALUE);
        }
        due("as it was", x.name(0, 0), 3);
        due("no change", x.count(14), 1);
    }

    // ---- Promise 5: withdraw

    @Sentence(in = "Promise 5: withdraw", says = "corners that bear it bear none then (and owe nothing more by that).")
    static void promise05CornersBearNone() {
        PunCourts x = Check.court("ba3ca3");
        x.give(0, 0);
        x.give(0, 11);
        x.give(1, 5);
        x.withdraw(0);
        for (int c = 0; c < 12; c++) {
            due("name of " + c, x.corner(c, 0), c == 5 ? 1 : NONE);
            due("owed by " + c, x.corner(c, 1), c == 0 || c == 11 || c == 5 ? 2 : c == 1 || c == 10 || c == 4 || c == 6
                    ? 1 : 0);
        }
        due("no day at 0", x.corner(0, 3), NONE);
    }

    @Sentence(in = "Promise 5: withdraw", says = "This is a change.")
    static void promise05IsAChange() {
        PunCourts x = Check.court("ba3");
        x.give(0, 4);
        x.withdraw(0);
        recorded(x, 2);
        due("borne again", x.corner(4, 0), 0);
        due("not withdrawn", x.name(0, 1), 1);
    }

    @Sentence(in = "Promise 5: withdraw", says = "Returns how many corners bore it;")
    static void promise05HowManyBoreIt() {
        for (int many = 0; many <= 6; many++) {
            PunCourts x = Check.court("ba3");
            x.set(PunCourts.BEARS, 6);
            for (int c = 0; c < many; c++) {
                x.give(0, 2 * c);
            }
            due("borne by " + many, x.withdraw(0), many);
        }
    }

    @Sentence(in = "Promise 5: withdraw", says = "NO_SUCH if there is no such name;")
    static void promise05NoSuchName() {
        due("no names", new PunCourts().withdraw(0), NO_SUCH);
        PunCourts x = Check.court("ba3");
        due("name 1", x.withdraw(1), NO_SUCH);
        for (int name : NO_INDEX) {
            due("name " + name, x.withdraw(name), NO_SUCH);
        }
        PunCourts full = Check.court(TermsSentences.TWENTY);
        due("name 20", full.withdraw(20), NO_SUCH);
        due("name 19", full.withdraw(19), 0);
    }

    @Sentence(in = "Promise 5: withdraw", says = "NOT_POSSIBLE if it was withdrawn.")
    static void promise05Withdrawn() {
        PunCourts x = Check.court("ba3");
        due("once", x.withdraw(0), 0);
        due("twice", x.withdraw(0), NOT_POSSIBLE);
        due("no change", x.count(14), 2);
        x.undo();
        due("once again", x.withdraw(0), 0);
    }

    // ---- Promise 6: give

    @Sentence(in = "Promise 6: give", says = "Gives a name to a corner. This is a change.")
    static void promise06IsAChange() {
        PunCourts x = Check.court("ba3");
        x.give(0, 5);
        recorded(x, 1);
        due("bears none", x.corner(5, 0), NONE);
        due("nothing is owed", x.count(8), 0);
        due("never given", x.name(0, 6), 0);
    }

    @Sentence(in = "Promise 6: give", says = "Returns how many posts the corner owes then;")
    static void promise06HowManyPosts() {
        PunCourts x = Check.court("ba3ca3");
        due("none before", x.give(0, 0), 2);
        due("one before", x.give(1, 1), 3);
        x.pass(2);
        due("one that was set up", x.corner(0, 1), 1);
        x.set(PunCourts.RESTS, 0);
        due("one left", x.give(1, 0), 3);
        due("the last corner", x.give(0, 11), 2);
    }

    @Sentence(in = "Promise 6: give", says = "NO_SUCH if there is no such name or corner;")
    static void promise06NoSuchNameOrCorner() {
        due("no names", new PunCourts().give(0, 0), NO_SUCH);
        PunCourts x = Check.court("ba3");
        due("name 1", x.give(1, 0), NO_SUCH);
        due("corner 12", x.give(0, 12), NO_SUCH);
        for (int none : NO_INDEX) {
            due("name " + none, x.give(none, 0), NO_SUCH);
            due("corner " + none, x.give(0, none), NO_SUCH);
            due("neither " + none, x.give(none, none), NO_SUCH);
        }
        due("no change", x.count(14), 1);
    }

    @Sentence(in = "Promise 6: give", says = "NOT_POSSIBLE if it is refused.")
    static void promise06Refused() {
        PunCourts x = Check.court("ba3pa3ca1da5fa3");
        x.give(0, 0);
        x.give(0, 9);
        x.withdraw(4);
        int[][] refused = {{4, 5, 1}, {0, 0, 2}, {0, 5, 3}, {1, 3, 4}, {2, 0, 5}, {3, 0, 6}};
        for (int[] call : refused) {
            due("reason " + call[2], x.why(call[0], call[1]), call[2]);
            due("give for reason " + call[2], x.give(call[0], call[1]), NOT_POSSIBLE);
        }
        due("no change", x.count(14), 4);
        due("nothing more owed", x.count(8), 7);
    }

    // ---- Promise 7: strip

    @Sentence(in = "Promise 7: strip", says = "Takes the name of a corner away; it owes 1 post more.")
    static void promise07OwesOneMore() {
        int[] corners = {0, 5, 11};
        for (int corner : corners) {
            PunCourts x = Check.court("ba3");
            x.give(0, corner);
            int owed = x.count(8);
            x.strip(corner);
            due("owed by " + corner, x.corner(corner, 1), 3);
            due("owed in all", x.count(8), owed + 1);
            due("name of " + corner, x.corner(corner, 0), NONE);
            due("day of " + corner, x.corner(corner, 3), NONE);
        }
    }

    @Sentence(in = "Promise 7: strip", says = "This is a change.")
    static void promise07IsAChange() {
        PunCourts x = Check.court("ba3");
        x.give(0, 5);
        x.strip(5);
        recorded(x, 2);
        due("borne again", x.corner(5, 0), 0);
        due("owed", x.corner(5, 1), 2);
    }

    @Sentence(in = "Promise 7: strip", says = "Returns the name;")
    static void promise07TheName() {
        PunCourts x = Check.court(TermsSentences.TWENTY);
        x.give(0, 0);
        x.give(19, 11);
        due("name 0 of corner 0", x.strip(0), 0);
        due("name 19 of corner 11", x.strip(11), 19);
    }

    @Sentence(in = "Promise 7: strip", says = "NO_SUCH if there is no such corner;")
    static void promise07NoSuchCorner() {
        PunCourts x = Check.court("ba3");
        due("corner 12", x.strip(12), NO_SUCH);
        for (int corner : NO_INDEX) {
            due("corner " + corner, x.strip(corner), NO_SUCH);
        }
    }

    @Sentence(in = "Promise 7: strip", says = "NOT_POSSIBLE if it bears none.")
    static void promise07BearsNone() {
        PunCourts x = Check.court("ba3");
        for (int c = 0; c < 12; c++) {
            due("corner " + c, x.strip(c), NOT_POSSIBLE);
        }
        x.give(0, 3);
        due("beside it", x.strip(4), NOT_POSSIBLE);
        x.strip(3);
        due("stripped", x.strip(3), NOT_POSSIBLE);
        due("owed", x.corner(3, 1), 3);
        x.give(0, 3);
        x.withdraw(0);
        due("withdrawn", x.strip(3), NOT_POSSIBLE);
    }

    // ---- Promise 8: issue

    @Sentence(in = "Promise 8: issue", says = "Issues a map. This is a change.")
    static void promise08IsAChange() {
        PunCourts x = Check.court("ba3");
        x.issue();
        recorded(x, 1);
        due("no map", x.count(11), NONE);
        x.issue();
        x.give(0, 0);
        x.issue();
        recorded(x, 3);
        due("the map before", x.corner(0, 5), NONE);
        due("is wrong", x.count(11), 1);
    }

    @Sentence(in = "Promise 8: issue", says = "Returns at how many corners the map before was wrong;")
    static void promise08HowManyWere() {
        PunCourts x = Check.court("ba3ca3");
        x.set(PunCourts.BEARS, 6);
        x.issue();
        due("none", x.issue(), 0);
        for (int c = 0; c < 12; c++) {
            x.give(c / 6, c);
        }
        due("all", x.issue(), 12);
        due("none again", x.issue(), 0);
        x.strip(11);
        due("one", x.issue(), 1);
    }

    @Sentence(in = "Promise 8: issue", says = "NONE if there was none.")
    static void promise08NoneBefore() {
        PunCourts x = Check.court("ba3");
        x.give(0, 0);
        due("the first", x.issue(), NONE);
        x.undo();
        due("undone, so the first again", x.issue(), NONE);
        due("the second", x.issue(), 0);
    }

    // ---- Promise 9: pass

    @Sentence(in = "Promise 9: pass", says = "Lets days pass. This is a change.")
    static void promise09IsAChange() {
        PunCourts x = Check.court("ba3");
        x.pass(99);
        recorded(x, 1);
        due("days", x.count(4), 0);
        due("names given", x.count(10), 0);
        due("posts", x.count(9), 0);
    }

    @Sentence(in = "Promise 9: pass", says = "`days`: 1 to 99")
    static void promise09From1To99() {
        PunCourts x = new PunCourts();
        due("1", x.pass(1), 0);
        due("99", x.pass(99), 0);
        due("days", x.count(4), 100);
    }

    @Sentence(in = "Promise 9: pass", says = "Returns how many names are given in them;")
    static void promise09HowManyNames() {
        PunCourts x = Check.court("ba3ca3da3");
        due("2 of 3", x.pass(2), 2);
        due("the last", x.pass(2), 1);
        due("none waits", x.pass(2), 0);
        PunCourts y = Check.court(TermsSentences.TWENTY);
        y.set(PunCourts.RESTS, 0);
        due("one each day, in the place of another", y.pass(99), 99);
        due("each time counts", y.count(10), 99);
    }

    @Sentence(in = "Promise 9: pass", says = "BAD_VALUE if days is out of range;")
    static void promise09OutOfRange() {
        PunCourts x = new PunCourts();
        due("0", x.pass(0), BAD_VALUE);
        due("100", x.pass(100), BAD_VALUE);
        for (int days : NO_INDEX) {
            due("days " + days, x.pass(days), BAD_VALUE);
        }
        due("days", x.count(4), 0);
        due("no change", x.count(14), 0);
    }

    @Sentence(in = "Promise 9: pass", says = "TOO_MANY if the days would be above 9999.")
    static void promise09Above9999() {
        PunCourts x = new PunCourts();
        for (int i = 0; i < 100; i++) {
            x.pass(99);
        }
        x.pass(98);
        due("days", x.count(4), 9998);
        due("2 are too many", x.pass(2), TOO_MANY);
        due("99 are too many", x.pass(99), TOO_MANY);
        due("1 is not", x.pass(1), 0);
        due("the last day", x.count(4), 9999);
        due("1 is too many", x.pass(1), TOO_MANY);
        due("still", x.count(4), 9999);
        x.undo();
        due("undone, so 1 is not", x.pass(1), 0);
        x.undo();
        x.undo();
        due("99 to 9999", x.pass(99), 0);
        due("the last day", x.count(4), 9999);
    }
}
