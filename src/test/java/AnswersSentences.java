/** The sentences of the promises on the calls that tell what there is. */
final class AnswersSentences {
    private static final int NO_SUCH = -1, BAD_VALUE = -2, NONE = -6;
    private static final int[] NO_INDEX = {-1, Integer.MIN_VALUE, Integer.MAX_VALUE};

    private AnswersSentences() {
    }

    private static void due(String call, long got, long want) {
        Check.due(call, got, want);
    }

    @Sentence(in = "Texts", says = "Ahead of the calls `name`, `alike`, `corner`, `why`, `count` the interface says: "
            + "---- what there is; nothing changes.")
    static void textsWhatThereIsChangesNothing() {
        PunCourts x = busy();
        for (int what = -1; what <= 7; what++) {
            x.name(0, what);
            x.corner(3, what);
            x.alike(0, 1, what);
            x.why(what, 3);
        }
        for (int what = -1; what <= 15; what++) {
            x.count(what);
        }
        Check.same("state", Check.state(x), Check.state(busy()));
        Check.same("rest", Check.rest(x), Check.rest(busy()));
    }

    private static PunCourts busy() {
        PunCourts x = Check.court("ba3pa5ca9");
        x.save(1);
        x.give(0, 3);
        x.issue();
        x.pass(2);
        Check.type(x, "ca3");
        return x;
    }

    // ---- Promise 10: name

    @Sentence(in = "Promise 10: name", says = "0 its honour,")
    static void promise10Honour() {
        PunCourts x = Check.court("ba0ca9");
        due("the lowest", x.name(0, 0), 0);
        due("the highest", x.name(1, 0), 9);
        x.withdraw(1);
        due("withdrawn", x.name(1, 0), 9);
    }

    @Sentence(in = "Promise 10: name", says = "1 where it is: 0 waiting, 1 borne, 2 withdrawn,")
    static void promise10WhereItIs() {
        PunCourts x = Check.court("ba3ca3da3");
        x.give(1, 11);
        x.give(2, 5);
        x.withdraw(2);
        due("waiting", x.name(0, 1), 0);
        due("borne", x.name(1, 1), 1);
        due("withdrawn, once borne", x.name(2, 1), 2);
    }

    @Sentence(in = "Promise 10: name", says = "2 the corners that bear it, as a set (a bit mask),")
    static void promise10Corners() {
        PunCourts x = Check.court("ba3ca3");
        due("none", x.name(0, 2), 0);
        x.set(PunCourts.BEARS, 6);
        int set = 0;
        for (int c = 1; c <= 11; c += 2) {
            x.give(0, c);
            set |= 1 << c;
            due("odd corners to " + c, x.name(0, 2), set);
        }
        x.give(1, 0);
        due("corner 0", x.name(1, 2), 1);
        x.withdraw(0);
        due("withdrawn", x.name(0, 2), 0);
    }

    @Sentence(in = "Promise 10: name", says = "3 its place in the queue (by honours, then numbers;")
    static void promise10Place() {
        PunCourts x = Check.court("ba0ca9da4fa9la4");
        int[] places = {4, 0, 2, 1, 3};
        for (int name = 0; name < places.length; name++) {
            due("place of " + name, x.name(name, 3), places[name]);
        }
        x.give(1, 0);
        x.withdraw(2);
        due("the first of those that wait", x.name(3, 3), 0);
        due("the second", x.name(4, 3), 1);
        due("the last", x.name(0, 3), 2);
        PunCourts full = Check.court(TermsSentences.TWENTY);
        due("the last of twenty", full.name(19, 3), 19);
    }

    @Sentence(in = "Promise 10: name", says = "NONE if it does not wait),")
    static void promise10NoPlace() {
        PunCourts x = Check.court("ba3ca3");
        x.give(0, 0);
        x.withdraw(1);
        due("borne", x.name(0, 3), NONE);
        due("withdrawn", x.name(1, 3), NONE);
        x.strip(0);
        due("waits again", x.name(0, 3), 0);
    }

    @Sentence(in = "Promise 10: name", says = "4 its sound, as a number whose digits are the signs (0 without signs),")
    static void promise10Sound() {
        PunCourts x = Check.court("hy3yhyhyhyhy3bab3abc3");
        due("without signs", x.name(0, 4), 0);
        due("nine letters without signs", x.name(1, 4), 0);
        due("alike signs", x.name(2, 4), 11);
        due("three signs", x.name(3, 4), 712);
        PunCourts y = Check.court("nbmbnpmpn3abmbnpmpn3");
        due("nine signs", y.name(0, 4), 616161616);
        due("the largest sound", y.name(1, 4), 716161616);
        PunCourts z = Check.court("anlnlnrmr3");
        due("the largest number of nine signs", z.name(0, 4), 765656565);
    }

    @Sentence(in = "Promise 10: name", says = "5 how many letters it has,")
    static void promise10Letters() {
        PunCourts x = Check.court("ba3bab3baba3babab3bababa3");
        for (int name = 0; name < 5; name++) {
            due("letters of " + name, x.name(name, 5), name + 2);
        }
        PunCourts y = Check.court("hyhyhyhy3aaaaaaaaa3");
        due("eight that are left out", y.name(0, 5), 8);
        due("nine that are alike", y.name(1, 5), 9);
    }

    @Sentence(in = "Promise 10: name", says = "6 how often it was given so far")
    static void promise10HowOften() {
        PunCourts x = Check.court("ba3ca1");
        due("never", x.name(0, 6), 0);
        x.give(0, 0);
        x.give(0, 5);
        due("twice", x.name(0, 6), 2);
        x.strip(0);
        x.strip(5);
        due("taken away, still", x.name(0, 6), 2);
        x.pass(1);
        due("by a day", x.name(0, 6), 3);
        x.withdraw(0);
        due("withdrawn, still", x.name(0, 6), 3);
        due("the other", x.name(1, 6), 0);
    }

    @Sentence(in = "Promise 10: name", says = "Returns the number; NO_SUCH if there is no such name;")
    static void promise10NoSuchName() {
        PunCourts empty = new PunCourts();
        PunCourts x = Check.court("ba3");
        for (int what = 0; what <= 7; what++) {
            due("no names, " + what, empty.name(0, what), NO_SUCH);
            due("name 1, " + what, x.name(1, what), NO_SUCH);
            for (int name : NO_INDEX) {
                due("name " + name + ", " + what, x.name(name, what), NO_SUCH);
            }
        }
        PunCourts full = Check.court(TermsSentences.TWENTY);
        due("name 19", full.name(19, 0), 9);
        due("name 20", full.name(20, 0), NO_SUCH);
        full.undo();
        due("undone", full.name(0, 0), NO_SUCH);
    }

    @Sentence(in = "Promise 10: name", says = "BAD_VALUE if what is out of range.")
    static void promise10OutOfRange() {
        PunCourts x = Check.court("ba3");
        due("7", x.name(0, 7), BAD_VALUE);
        for (int what : NO_INDEX) {
            due("what " + what, x.name(0, what), BAD_VALUE);
        }
    }

    // ---- Promise 11: alike

    @Sentence(in = "Promise 11: alike", says = "`way`: 0 told by their sounds, as they are made, "
            + "1 told letter by letter, from the left of both at once")
    static void promise11BothWays() {
        String[] pairs = {"hy hyyh 1", "hy ha 0", "ba bba 1", "ba bab 0", "bab bb 0", "bahab bob 1", "ab ba 0",
            "ab eebb 1", "aa ai 1", "cathedral katedrol 1", "cathedral catedra 0", "bcbcbcbcb pkpkpkpkp 1",
            "bcbcbcbcb pkpkpkpkd 0", "bhhhhhhhb by 1", "hhhhhhhhb bh 1", "hhhhhhhha yo 1", "aaaaaaaab ob 1",
            "baaaaaaaa pa 1", "bc bd 0", "abc bc 0"};
        for (String pair : pairs) {
            String[] words = pair.split(" ");
            PunCourts x = Check.court(words[0] + "1" + words[1] + "1");
            int want = Integer.parseInt(words[2]);
            for (int way = 0; way <= 1; way++) {
                due(pair + " by " + way, x.alike(0, 1, way), want);
                due(pair + " turned round by " + way, x.alike(1, 0, way), want);
            }
        }
    }

    @Sentence(in = "Promise 11: alike", says = "Returns 1 if they do, otherwise 0 (the same by both ways);")
    static void promise11OneOrZero() {
        PunCourts x = Check.court(TermsSentences.TWENTY);
        for (int one = 0; one < 20; one++) {
            for (int other = one % 3; other < 20; other += 3) {
                for (int way = 0; way <= 1; way++) {
                    due(one + ", " + other + " by " + way, x.alike(one, other, way), one == other ? 1 : 0);
                }
            }
        }
    }

    @Sentence(in = "Promise 11: alike", says = "NO_SUCH if there is no such name;")
    static void promise11NoSuchName() {
        due("no names", new PunCourts().alike(0, 0, 0), NO_SUCH);
        PunCourts x = Check.court("ba3");
        for (int way = 0; way <= 2; way++) {
            due("name 1 and 0", x.alike(1, 0, way), NO_SUCH);
            due("name 0 and 1", x.alike(0, 1, way), NO_SUCH);
            for (int name : NO_INDEX) {
                due("name " + name + " and 0", x.alike(name, 0, way), NO_SUCH);
                due("name 0 and " + name, x.alike(0, name, way), NO_SUCH);
                due("name " + name + " twice", x.alike(name, name, way), NO_SUCH);
            }
        }
    }

    @Sentence(in = "Promise 11: alike", says = "BAD_VALUE if way is neither 0 nor 1.")
    static void promise11NoSuchWay() {
        PunCourts x = Check.court("ba3pa3");
        due("2", x.alike(0, 1, 2), BAD_VALUE);
        for (int way : NO_INDEX) {
            due("way " + way, x.alike(0, 1, way), BAD_VALUE);
            due("a name and itself", x.alike(0, 0, way), BAD_VALUE);
        }
    }

    // ---- Promise 12: corner

    @Sentence(in = "Promise 12: corner", says = "0 its name (NONE),")
    static void promise12Name() {
        PunCourts x = Check.court("ba3ca3");
        due("none", x.corner(11, 0), NONE);
        x.give(1, 11);
        due("name 1", x.corner(11, 0), 1);
        x.strip(11);
        due("stripped", x.corner(11, 0), NONE);
        x.give(0, 0);
        due("name 0", x.corner(0, 0), 0);
        x.withdraw(0);
        due("withdrawn", x.corner(0, 0), NONE);
    }

    @Sentence(in = "Promise 12: corner", says = "1 posts that it owes, 2 posts that were set up there so far,")
    static void promise12Posts() {
        PunCourts x = Check.court("ba3");
        due("owed at first", x.corner(5, 1), 0);
        due("set up at first", x.corner(5, 2), 0);
        x.give(0, 5);
        x.strip(5);
        due("given and stripped", x.corner(5, 1), 3);
        x.pass(1);
        due("one left of two at corner 0, where the day gave the name", x.corner(0, 1), 1);
        due("two left of three", x.corner(5, 1), 2);
        due("set up", x.corner(5, 2), 1);
        x.pass(99);
        due("none owed", x.corner(5, 1), 0);
        due("all set up", x.corner(5, 2), 3);
    }

    @Sentence(in = "Promise 12: corner", says = "3 the day on which it got its name (NONE without one),")
    static void promise12Day() {
        PunCourts x = Check.court("ba3");
        due("without one", x.corner(0, 3), NONE);
        x.give(0, 0);
        due("the day 0", x.corner(0, 3), 0);
        x.pass(4);
        x.strip(0);
        due("stripped", x.corner(0, 3), NONE);
        x.give(0, 0);
        due("the day 4", x.corner(0, 3), 4);
        x.withdraw(0);
        due("withdrawn", x.corner(0, 3), NONE);
    }

    @Sentence(in = "Promise 12: corner", says = "4 how often it got a name so far,")
    static void promise12HowOften() {
        PunCourts x = Check.court("ba3");
        due("never", x.corner(0, 4), 0);
        x.give(0, 0);
        x.strip(0);
        due("once, though it bears none now", x.corner(0, 4), 1);
        x.give(0, 0);
        due("the same name twice", x.corner(0, 4), 2);
        x.strip(0);
        x.pass(1);
        due("by a day", x.corner(0, 4), 3);
        due("beside it", x.corner(1, 4), 0);
    }

    @Sentence(in = "Promise 12: corner", says = "5 the name that the map shows (NONE, also without a map)")
    static void promise12Map() {
        PunCourts x = Check.court("ba3");
        x.give(0, 0);
        due("without a map", x.corner(0, 5), NONE);
        x.issue();
        due("name 0", x.corner(0, 5), 0);
        due("shown without a name", x.corner(1, 5), NONE);
        x.strip(0);
        due("the map stays", x.corner(0, 5), 0);
        x.issue();
        due("the next map", x.corner(0, 5), NONE);
        x.undo();
        x.undo();
        x.undo();
        due("the map undone", x.corner(0, 5), NONE);
    }

    @Sentence(in = "Promise 12: corner", says = "Returns the number; NO_SUCH if there is no such corner;")
    static void promise12NoSuchCorner() {
        PunCourts x = Check.court("ba3");
        for (int what = 0; what <= 6; what++) {
            due("corner 12, " + what, x.corner(12, what), NO_SUCH);
            for (int corner : NO_INDEX) {
                due("corner " + corner + ", " + what, x.corner(corner, what), NO_SUCH);
            }
        }
    }

    @Sentence(in = "Promise 12: corner", says = "BAD_VALUE if what is out of range.")
    static void promise12OutOfRange() {
        PunCourts x = Check.court("ba3");
        due("6", x.corner(11, 6), BAD_VALUE);
        for (int what : NO_INDEX) {
            due("what " + what, x.corner(0, what), BAD_VALUE);
        }
    }

    // ---- Promise 13: why

    @Sentence(in = "Promise 13: why", says = "Returns 0 if it is not, otherwise the reason, 1 to 6;")
    static void promise13EachReason() {
        PunCourts x = Check.court("ba3pa3ca1da5fa3");
        x.give(0, 0);
        x.give(0, 9);
        x.withdraw(4);
        due("0 not refused", x.why(1, 4), 0);
        due("1 withdrawn", x.why(4, 4), 1);
        due("2 borne there", x.why(0, 9), 2);
        due("3 borne by BEARS", x.why(0, 4), 3);
        due("4 a pun near", x.why(1, 3), 4);
        due("5 a higher honour there", x.why(2, 0), 5);
        due("6 got a few days ago", x.why(3, 0), 6);
    }

    @Sentence(in = "Promise 13: why", says = "NO_SUCH if there is no such name or corner.")
    static void promise13NoSuchNameOrCorner() {
        due("no names", new PunCourts().why(0, 0), NO_SUCH);
        PunCourts x = Check.court("ba3");
        x.withdraw(0);
        due("name 1", x.why(1, 0), NO_SUCH);
        due("corner 12 for a withdrawn name", x.why(0, 12), NO_SUCH);
        for (int none : NO_INDEX) {
            due("name " + none, x.why(none, 0), NO_SUCH);
            due("corner " + none, x.why(0, none), NO_SUCH);
            due("neither " + none, x.why(none, none), NO_SUCH);
        }
    }

    // ---- Promise 14: count

    @Sentence(in = "Promise 14: count", says = "0 to 3 the settings, 4 the days,")
    static void promise14SettingsAndDays() {
        PunCourts x = new PunCourts();
        int[] first = {3, 2, 2, 10, 0};
        int[] then = {0, 6, 9, 60, 99};
        for (int what = 0; what < 5; what++) {
            due("first " + what, x.count(what), first[what]);
        }
        for (int setting = 0; setting < 4; setting++) {
            x.set(setting, then[setting]);
        }
        x.pass(99);
        for (int what = 0; what < 5; what++) {
            due("then " + what, x.count(what), then[what]);
        }
    }

    @Sentence(in = "Promise 14: count", says = "5 names, 6 those that wait, 7 corners that bear a name,")
    static void promise14NamesAndCorners() {
        PunCourts x = Check.court(TermsSentences.TWENTY);
        due("names", x.count(5), 20);
        due("all wait", x.count(6), 20);
        due("no corners", x.count(7), 0);
        for (int c = 0; c < 12; c++) {
            x.give(c, c);
        }
        due("eight wait", x.count(6), 8);
        due("all corners", x.count(7), 12);
        x.withdraw(0);
        x.withdraw(19);
        due("names that were withdrawn too", x.count(5), 20);
        due("but they do not wait", x.count(6), 7);
        due("nor are borne", x.count(7), 11);
    }

    @Sentence(in = "Promise 14: count", says = "8 posts that are owed, 9 posts that were set up so far,")
    static void promise14Posts() {
        PunCourts x = Check.court("ba3");
        due("owed", x.count(8), 0);
        x.give(0, 0);
        x.give(0, 11);
        due("at both ends of the row", x.count(8), 6);
        x.pass(1);
        due("two less", x.count(8), 4);
        due("set up", x.count(9), 2);
        x.pass(9);
        due("none", x.count(8), 0);
        due("all", x.count(9), 6);
    }

    @Sentence(in = "Promise 14: count", says = "10 names given so far (each time),")
    static void promise14NamesGiven() {
        PunCourts x = Check.court("ba3ca3");
        due("none", x.count(10), 0);
        x.give(0, 0);
        x.strip(0);
        x.give(0, 0);
        due("the same name twice", x.count(10), 2);
        x.pass(1);
        due("by a day", x.count(10), 3);
        x.withdraw(0);
        due("also of one that was withdrawn", x.count(10), 3);
    }

    @Sentence(in = "Promise 14: count", says = "11 corners at which the map is wrong (NONE without a map),")
    static void promise14Map() {
        PunCourts x = Check.court("ba3ca3");
        x.set(PunCourts.BEARS, 6);
        x.give(0, 0);
        due("without a map", x.count(11), NONE);
        x.issue();
        due("right", x.count(11), 0);
        x.strip(0);
        for (int c = 0; c < 12; c++) {
            x.give(c % 2 == 0 ? 1 : 0, c);
        }
        due("wrong everywhere", x.count(11), 12);
    }

    @Sentence(in = "Promise 14: count", says = "12 pairs of corners that bear unlike names that sound alike,")
    static void promise14Pairs() {
        PunCourts x = Check.court("ba3pa3bo3ca3");
        x.set(PunCourts.NEAR, 0);
        x.set(PunCourts.BEARS, 6);
        due("none", x.count(12), 0);
        x.give(0, 0);
        x.give(0, 5);
        due("the same name", x.count(12), 0);
        x.give(3, 6);
        due("another sound", x.count(12), 0);
        x.give(1, 11);
        due("with each of two", x.count(12), 2);
        x.give(2, 10);
        due("side by side", x.count(12), 5);
        x.withdraw(0);
        due("only those that are borne", x.count(12), 1);
        PunCourts y = Check.court("ba3pa3bo3pe3");
        y.set(PunCourts.NEAR, 0);
        y.set(PunCourts.BEARS, 3);
        for (int c = 0; c < 12; c++) {
            y.give(c % 4, c);
        }
        due("as many as there can be of four names", y.count(12), 54);
    }

    @Sentence(in = "Promise 14: count", says = "13 the length of the pad, 14 how many changes can be undone")
    static void promise14PadAndHistory() {
        PunCourts x = new PunCourts();
        due("empty", x.count(13), 0);
        due("none", x.count(14), 0);
        Check.type(x, TermsSentences.TWENTY);
        due("full", x.count(13), 60);
        due("no change", x.count(14), 0);
        x.read();
        due("read", x.count(13), 0);
        for (int i = 2; i <= 8; i++) {
            x.issue();
            due("changes", x.count(14), Math.min(i, 6));
        }
        x.undo();
        due("one less", x.count(14), 5);
    }

    @Sentence(in = "Promise 14: count", says = "Returns the number; BAD_VALUE if what is out of range.")
    static void promise14OutOfRange() {
        PunCourts x = new PunCourts();
        due("15", x.count(15), BAD_VALUE);
        for (int what : NO_INDEX) {
            due("what " + what, x.count(what), BAD_VALUE);
        }
    }
}
