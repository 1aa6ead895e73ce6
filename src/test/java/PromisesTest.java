/** Each promise by itself: ordinary inputs, edges and wrong inputs, with answers worked out by hand. */
public final class PromisesTest {
    private static final int NO_SUCH = -1, BAD_VALUE = -2, BAD_TEXT = -3, TOO_MANY = -4, NOT_POSSIBLE = -5, NONE = -6;
    /** As many names as there can be; puns are among them. */
    private static final String TWENTY = "aa0bb1cc2dd3ee4ff5gg6hh7ii8jj9kk0ll1mm2nn3oo4pp5qq6rr7ss8tt9";

    public static void main(String[] args) {
        constants();
        newObject();
        settings();
        reading();
        honours();
        withdrawing();
        giving();
        stripping();
        issuing();
        passing();
        givingByDays();
        settingUpPosts();
        passingTooFar();
        names();
        sounds();
        alike();
        corners();
        reasons();
        reasonsWhenSettingsShrink();
        puns();
        counts();
        punPairs();
        bestCorners();
        untilBorne();
        untilPosted();
        ifPassed();
        putting();
        wiping();
        faults();
        undoing();
        errorsRecordNothing();
        saving();
        restoring();
        Check.end();
    }

    private static void due(String call, long got, long want) {
        Check.due(call, got, want);
    }

    private static void constants() {
        due("NO_SUCH", PunCourts.NO_SUCH, -1);
        due("BAD_VALUE", PunCourts.BAD_VALUE, -2);
        due("BAD_TEXT", PunCourts.BAD_TEXT, -3);
        due("TOO_MANY", PunCourts.TOO_MANY, -4);
        due("NOT_POSSIBLE", PunCourts.NOT_POSSIBLE, -5);
        due("NONE", PunCourts.NONE, -6);
        due("NEAR", PunCourts.NEAR, 0);
        due("BEARS", PunCourts.BEARS, 1);
        due("POSTS", PunCourts.POSTS, 2);
        due("RESTS", PunCourts.RESTS, 3);
    }

    // Promise 1
    private static void newObject() {
        PunCourts x = new PunCourts();
        int[] counts = {3, 2, 2, 10, 0, 0, 0, 0, 0, 0, 0, NONE, 0, 0, 0};
        for (int what = 0; what < counts.length; what++) {
            due("new: count(" + what + ")", x.count(what), counts[what]);
        }
        int[] corner = {NONE, 0, 0, NONE, 0, NONE};
        for (int c = 0; c < 12; c++) {
            for (int what = 0; what < corner.length; what++) {
                due("new: corner(" + c + ", " + what + ")", x.corner(c, what), corner[what]);
            }
        }
        due("new: name(0, 0)", x.name(0, 0), NO_SUCH);
        due("new: fault()", x.fault(), 0);
        due("new: undo()", x.undo(), NOT_POSSIBLE);
        due("new: restore(0)", x.restore(0), NOT_POSSIBLE);
        due("new: restore(1)", x.restore(1), NOT_POSSIBLE);
    }

    // Promise 2
    private static void settings() {
        int[] first = {3, 2, 2, 10};
        int[] lowest = {0, 1, 0, 0};
        int[] highest = {11, 6, 9, 60};
        for (int s = 0; s < 4; s++) {
            PunCourts x = new PunCourts();
            due("set " + s + " too low", x.set(s, lowest[s] - 1), BAD_VALUE);
            due("set " + s + " too high", x.set(s, highest[s] + 1), BAD_VALUE);
            due("set " + s + " far too low", x.set(s, Integer.MIN_VALUE), BAD_VALUE);
            due("set " + s + " far too high", x.set(s, Integer.MAX_VALUE), BAD_VALUE);
            due("nothing recorded", x.count(14), 0);
            due("set " + s + " lowest", x.set(s, lowest[s]), first[s]);
            due("set " + s + " highest", x.set(s, highest[s]), lowest[s]);
            due("set " + s + " the same", x.set(s, highest[s]), highest[s]);
            for (int other = 0; other < 4; other++) {
                due("setting " + other, x.count(other), other == s ? highest[s] : first[other]);
            }
            due("recorded", x.count(14), 3);
        }
        PunCourts x = new PunCourts();
        due("set(-1, 1)", x.set(-1, 1), BAD_VALUE);
        due("set(4, 1)", x.set(4, 1), BAD_VALUE);
        due("set(MIN, 1)", x.set(Integer.MIN_VALUE, 1), BAD_VALUE);
        due("set(MAX, 1)", x.set(Integer.MAX_VALUE, 1), BAD_VALUE);
    }

    // Promise 3
    private static void reading() {
        PunCourts x = new PunCourts();
        due("read of nothing", x.read(), BAD_TEXT);
        Check.type(x, "ab1c");
        due("read too short", x.read(), BAD_TEXT);
        due("pad stays", x.count(13), 4);
        due("nothing recorded", x.count(14), 0);
        due("put d", x.put('d'), 5);
        due("put 9", x.put('9'), 6);
        due("read two", x.read(), 2);
        due("pad is empty", x.count(13), 0);
        due("recorded", x.count(14), 1);
        due("honour of 0", x.name(0, 0), 1);
        due("honour of 1", x.name(1, 0), 9);
        due("read again", x.read(), BAD_TEXT);
        Check.read(x, "abcdefghi0");
        due("names", x.count(5), 3);
        due("letters", x.name(2, 5), 9);
        due("old letters", x.name(0, 5), 2);
        PunCourts full = Check.court(TWENTY);
        due("twenty names", full.count(5), 20);
        due("the last", full.name(19, 0), 9);
        due("no more", full.name(20, 0), NO_SUCH);
        Check.type(full, "zz1");
        due("one too many", full.read(), TOO_MANY);
        due("pad stays", full.count(13), 3);
        due("nothing recorded", full.count(14), 1);
        due("fault before too many", full.put('!'), 4);
        due("bad text first", full.read(), BAD_TEXT);
        PunCourts nineteen = Check.court(TWENTY.substring(3));
        Check.type(nineteen, "yy1zz2");
        due("two too many by one", nineteen.read(), TOO_MANY);
        nineteen.wipe();
        Check.type(nineteen, "yy1");
        due("the twentieth", nineteen.read(), 20);
        due("a withdrawn name keeps its number", nineteen.withdraw(3), 0);
        Check.type(nineteen, "zz1");
        due("a withdrawn name counts", nineteen.read(), TOO_MANY);
    }

    // Promise 4
    private static void honours() {
        PunCourts x = Check.court("rose3park5");
        due("honour(2, 1)", x.honour(2, 1), NO_SUCH);
        due("honour(-1, 1)", x.honour(-1, 1), NO_SUCH);
        due("honour(MAX, 1)", x.honour(Integer.MAX_VALUE, 1), NO_SUCH);
        due("honour(MIN, 1)", x.honour(Integer.MIN_VALUE, 1), NO_SUCH);
        due("no such name first", x.honour(2, 10), NO_SUCH);
        due("honour(0, 10)", x.honour(0, 10), BAD_VALUE);
        due("honour(0, -1)", x.honour(0, -1), BAD_VALUE);
        due("nothing recorded", x.count(14), 1);
        due("honour(0, 9)", x.honour(0, 9), 3);
        due("honour(0, 0)", x.honour(0, 0), 9);
        due("honour(0, 0) again", x.honour(0, 0), 0);
        due("recorded", x.count(14), 4);
        due("the other keeps its own", x.name(1, 0), 5);
        x.withdraw(1);
        due("withdrawn", x.honour(1, 7), 5);
        due("withdrawn still", x.name(1, 1), 2);
    }

    // Promise 5
    private static void withdrawing() {
        PunCourts x = Check.court("rose3park5");
        due("withdraw(2)", x.withdraw(2), NO_SUCH);
        due("withdraw(-1)", x.withdraw(-1), NO_SUCH);
        due("withdraw(MAX)", x.withdraw(Integer.MAX_VALUE), NO_SUCH);
        x.give(0, 0);
        x.give(0, 11);
        x.give(1, 5);
        int owed = x.count(8);
        due("withdraw(0)", x.withdraw(0), 2);
        due("corner 0", x.corner(0, 0), NONE);
        due("corner 11", x.corner(11, 0), NONE);
        due("corner 5 keeps its name", x.corner(5, 0), 1);
        due("day of corner 0", x.corner(0, 3), NONE);
        due("nothing more is owed", x.count(8), owed);
        due("corner 0 owes", x.corner(0, 1), 2);
        due("where", x.name(0, 1), 2);
        due("borne by none", x.name(0, 2), 0);
        due("how often given", x.name(0, 6), 2);
        due("not in the queue", x.name(0, 3), NONE);
        due("again", x.withdraw(0), NOT_POSSIBLE);
        due("recorded", x.count(14), 5);
        due("refused", x.why(0, 3), 1);
        due("not given", x.give(0, 3), NOT_POSSIBLE);
        due("days", x.pass(5), 0);
        due("still none", x.corner(0, 0), NONE);
        due("borne by one", x.withdraw(1), 1);
        PunCourts waiting = Check.court("rose3");
        due("one that waits", waiting.withdraw(0), 0);
        due("nothing given by days", waiting.pass(3), 0);
    }

    // Promise 6
    private static void giving() {
        PunCourts x = Check.court("rose3park5");
        due("no such name", x.give(2, 0), NO_SUCH);
        due("no such name -1", x.give(-1, 0), NO_SUCH);
        due("no such corner", x.give(0, 12), NO_SUCH);
        due("no such corner -1", x.give(0, -1), NO_SUCH);
        due("neither", x.give(Integer.MAX_VALUE, Integer.MIN_VALUE), NO_SUCH);
        due("nothing recorded", x.count(14), 1);
        due("give(0, 0)", x.give(0, 0), 2);
        due("it owes 2", x.corner(0, 1), 2);
        due("beside it 1", x.corner(1, 1), 1);
        due("not farther", x.corner(2, 1), 0);
        due("give(0, 11)", x.give(0, 11), 2);
        due("beside 11", x.corner(10, 1), 1);
        due("give(1, 10)", x.give(1, 10), 3);
        due("beside 10", x.corner(9, 1), 1);
        due("beside 10", x.corner(11, 1), 3);
        due("in all", x.count(8), 10);
        due("day", x.corner(0, 3), 0);
        due("BEARS bear it", x.give(0, 5), NOT_POSSIBLE);
        due("bears it", x.give(0, 0), NOT_POSSIBLE);
        due("recorded", x.count(14), 4);
        x.pass(10);
        due("after the rest", x.give(1, 0), 2);
        due("new day", x.corner(0, 3), 10);
        due("in place of", x.corner(0, 0), 1);
        due("still borne at 11", x.name(0, 1), 1);
        due("only at 11", x.name(0, 2), 1 << 11);
        due("corner 0 got names", x.corner(0, 4), 2);
        due("name 0 was given", x.name(0, 6), 2);
        due("name 1 was given", x.name(1, 6), 2);
        PunCourts y = Check.court("rose3park5");
        y.set(PunCourts.RESTS, 0);
        y.give(0, 4);
        due("takes the place", y.give(1, 4), 4);
        due("no corner bears it any more", y.name(0, 1), 0);
        due("in the queue", y.name(0, 3), 0);
    }

    // Promise 7
    private static void stripping() {
        PunCourts x = Check.court("rose3park5");
        due("strip(12)", x.strip(12), NO_SUCH);
        due("strip(-1)", x.strip(-1), NO_SUCH);
        due("strip(MAX)", x.strip(Integer.MAX_VALUE), NO_SUCH);
        due("strip(MIN)", x.strip(Integer.MIN_VALUE), NO_SUCH);
        due("bears none", x.strip(0), NOT_POSSIBLE);
        due("nothing recorded", x.count(14), 1);
        x.give(1, 3);
        x.give(1, 7);
        due("strip(3)", x.strip(3), 1);
        due("owes 1 more", x.corner(3, 1), 3);
        due("beside it none more", x.corner(2, 1), 1);
        due("no name", x.corner(3, 0), NONE);
        due("no day", x.corner(3, 3), NONE);
        due("still borne", x.name(1, 1), 1);
        due("again", x.strip(3), NOT_POSSIBLE);
        due("strip(7)", x.strip(7), 1);
        due("waits again", x.name(1, 1), 0);
        due("recorded", x.count(14), 5);
        due("no rest at a bare corner", x.why(0, 7), 0);
        due("how often corner 7 got a name", x.corner(7, 4), 1);
    }

    // Promise 8
    private static void issuing() {
        PunCourts x = Check.court("rose3park5");
        x.give(0, 0);
        due("the first map", x.issue(), NONE);
        due("recorded", x.count(14), 3);
        due("shows", x.corner(0, 5), 0);
        due("shows none", x.corner(1, 5), NONE);
        due("right", x.count(11), 0);
        x.give(1, 5);
        due("a new name where it shows none", x.count(11), 1);
        x.strip(0);
        due("none where it shows one", x.count(11), 2);
        due("still shows", x.corner(0, 5), 0);
        due("not yet", x.corner(5, 5), NONE);
        x.give(1, 0);
        due("another name", x.count(11), 2);
        due("a second map", x.issue(), 2);
        due("now right", x.count(11), 0);
        due("shows the new one", x.corner(0, 5), 1);
        due("a third map", x.issue(), 0);
        x.withdraw(1);
        due("withdrawn", x.count(11), 2);
        due("undo", x.undo(), 5);
        due("right again", x.count(11), 0);
        PunCourts y = Check.court("rose3");
        due("a map of bare corners", y.issue(), NONE);
        due("is there", y.count(11), 0);
        due("and shows none", y.corner(4, 5), NONE);
        due("undo it", y.undo(), 1);
        due("no map", y.count(11), NONE);
    }

    // Promise 9
    private static void passing() {
        PunCourts x = new PunCourts();
        due("pass(0)", x.pass(0), BAD_VALUE);
        due("pass(-1)", x.pass(-1), BAD_VALUE);
        due("pass(100)", x.pass(100), BAD_VALUE);
        due("pass(MAX)", x.pass(Integer.MAX_VALUE), BAD_VALUE);
        due("pass(MIN)", x.pass(Integer.MIN_VALUE), BAD_VALUE);
        due("nothing recorded", x.count(14), 0);
        due("pass(1)", x.pass(1), 0);
        due("pass(99)", x.pass(99), 0);
        due("days", x.count(4), 100);
        due("recorded", x.count(14), 2);
    }

    private static void givingByDays() {
        PunCourts x = Check.court("rose3park5king5rus9");
        due("one a day", x.pass(1), 1);
        due("the highest honour", x.corner(0, 0), 3);
        due("on the day before it was counted", x.corner(0, 3), 0);
        due("one more", x.pass(1), 1);
        due("of several the lowest number", x.corner(1, 0), 1);
        due("on day 1", x.corner(1, 3), 1);
        due("two days", x.pass(2), 2);
        due("next", x.corner(2, 0), 2);
        due("rose is a pun on rus, so it goes to 4", x.corner(4, 0), 0);
        due("corner 3 stays bare", x.corner(3, 0), NONE);
        due("all are borne", x.count(6), 0);
        due("nothing more", x.pass(99), 0);
        due("given", x.count(10), 4);
        PunCourts least = Check.court("rose0");
        due("also an honour of 0", least.pass(1), 1);
        PunCourts y = Check.court("rose9rus8park1");
        y.set(PunCourts.NEAR, 11);
        y.give(0, 0);
        due("the next name if the first is refused everywhere", y.pass(1), 1);
        due("park", y.corner(1, 0), 2);
        due("rus waits", y.name(1, 1), 0);
        due("and none after that", y.pass(1), 0);
    }

    private static void settingUpPosts() {
        PunCourts x = Check.court("rose3park5");
        x.give(0, 5);
        x.give(1, 8);
        due("POSTS is 2", x.pass(1), 0);
        due("most owed first, lowest first", x.corner(5, 2), 1);
        due("then the other", x.corner(8, 2), 1);
        due("left at 5", x.corner(5, 1), 1);
        due("left at 8", x.corner(8, 1), 1);
        x.pass(1);
        due("now the lowest of those that owe 1", x.corner(4, 2), 1);
        due("and 5", x.corner(5, 2), 2);
        due("owed", x.count(8), 4);
        x.set(PunCourts.POSTS, 9);
        x.pass(1);
        due("no more than owed", x.count(9), 8);
        due("none owed", x.count(8), 0);
        PunCourts y = Check.court("rose3park5");
        y.set(PunCourts.POSTS, 0);
        y.give(0, 5);
        y.pass(20);
        due("POSTS is 0", y.count(9), 0);
        y.set(PunCourts.POSTS, 1);
        y.pass(1);
        due("one", y.count(9), 1);
        due("names first, then posts", Check.court("rose3").pass(1), 1);
        PunCourts z = Check.court("rose3");
        z.pass(1);
        due("two posts on the day of the name", z.count(9), 2);
        due("the corner that owes the most, then again the lowest", z.corner(0, 2), 2);
        due("beside it still owed", z.corner(1, 1), 1);
    }

    private static void passingTooFar() {
        PunCourts x = Check.court("rose3");
        for (int i = 0; i < 100; i++) {
            x.pass(99);
        }
        due("days", x.count(4), 9900);
        due("to the last day", x.pass(99), 0);
        due("the last day", x.count(4), 9999);
        due("one more", x.pass(1), TOO_MANY);
        due("bad value first", x.pass(100), BAD_VALUE);
        due("bad value first", x.pass(0), BAD_VALUE);
        due("what if goes on", x.ifPassed(300, 0), 0);
        x.undo();
        due("99 were undone", x.count(4), 9900);
        due("98", x.pass(98), 0);
        due("2 are too many", x.pass(2), TOO_MANY);
        due("1 is not", x.pass(1), 0);
        due("the history is full all along", x.count(14), 6);
    }

    // Promise 10
    private static void names() {
        PunCourts x = Check.court("rose3park5king5hy7");
        due("name(4, 0)", x.name(4, 0), NO_SUCH);
        due("name(-1, 0)", x.name(-1, 0), NO_SUCH);
        due("name(MAX, 0)", x.name(Integer.MAX_VALUE, 0), NO_SUCH);
        due("name(MIN, 0)", x.name(Integer.MIN_VALUE, 0), NO_SUCH);
        due("no such name first", x.name(4, 9), NO_SUCH);
        due("name(0, 7)", x.name(0, 7), BAD_VALUE);
        due("name(0, -1)", x.name(0, -1), BAD_VALUE);
        due("name(0, MAX)", x.name(0, Integer.MAX_VALUE), BAD_VALUE);
        due("honour", x.name(1, 0), 5);
        due("waits", x.name(1, 1), 0);
        due("no corner", x.name(1, 2), 0);
        due("place of hy", x.name(3, 3), 0);
        due("place of park", x.name(1, 3), 1);
        due("place of king", x.name(2, 3), 2);
        due("place of rose", x.name(0, 3), 3);
        due("letters of hy", x.name(3, 5), 2);
        due("letters of rose", x.name(0, 5), 4);
        due("never given", x.name(0, 6), 0);
        x.give(1, 2);
        x.give(1, 11);
        due("borne", x.name(1, 1), 1);
        due("corners 2 and 11", x.name(1, 2), 1 << 2 | 1 << 11);
        PunCourts first = Check.court("rose3park5");
        first.give(0, 0);
        due("corner 0 too", first.name(0, 2), 1);
        due("name 0 too is out of the queue", first.name(1, 3), 0);
        first.strip(0);
        due("name 0 behind it", first.name(0, 3), 1);
        first.honour(0, 5);
        due("name 0 ahead of it", first.name(1, 3), 1);
        due("not in the queue", x.name(1, 3), NONE);
        due("king moves up", x.name(2, 3), 1);
        due("given twice", x.name(1, 6), 2);
        x.withdraw(3);
        due("withdrawn are not in the queue", x.name(2, 3), 0);
        x.strip(2);
        x.strip(11);
        due("stands in the queue by its number again", x.name(1, 3), 0);
        due("and king behind it", x.name(2, 3), 1);
        x.honour(0, 9);
        due("by honours", x.name(0, 3), 0);
    }

    private static void sounds() {
        sound("park", 152);
        sound("bar", 15);
        sound("hy", 0);
        sound("yhyhyhyhy", 0);
        sound("rose", 52);
        sound("rus", 52);
        sound("race", 52);
        sound("oak", 72);
        sound("aeiou", 7);
        sound("haha", 7);
        sound("bob", 11);
        sound("bb", 1);
        sound("bhb", 1);
        sound("bab", 11);
        sound("aha", 7);
        sound("abab", 711);
        sound("abb", 71);
        sound("ahb", 71);
        sound("cc", 2);
        sound("bp", 1);
        sound("cgjkqsxz", 2);
        sound("dt", 3);
        sound("fvw", 4);
        sound("lr", 5);
        sound("mn", 6);
        sound("abcdfhlmo", 7123456);
        sound("mbmbmbmbm", 616161616);
        sound("abmbmbmbm", 716161616);
        sound("ueadoooii", 73);
        String signs = "71237420722566712523744202";
        for (int i = 0; i < 25; i++) {
            char letter = (char) ('a' + i);
            sound("h" + letter, signs.charAt(i) - '0');
        }
        sound("hz", 2);
    }

    private static void sound(String name, int sound) {
        PunCourts x = Check.court(name + "1");
        due("sound of " + name, x.name(0, 4), sound);
        due("letters of " + name, x.name(0, 5), name.length());
    }

    // Promise 11
    private static void alike() {
        String[] texts = {"rose0rus0race0park0bar0bahar0hy0yh0oak0ak0kao0", "bb0bhb0bob0bab0ab0abb0eb0ab0bp0hbhpyb0ba0",
            "aa0a" + "hayhe0uu0hh0ee0yaya0ahab0aab0", "mbmbmbmbm0mbmbmbmb0bmbmbmbm0nananana0nhn0",
            "cathedral0dt0cathedr0katedrals0gatedlal0"};
        for (String text : texts) {
            PunCourts x = Check.court(text);
            int names = x.count(5);
            for (int one = 0; one < names; one++) {
                for (int other = 0; other < names; other++) {
                    int want = x.name(one, 4) == x.name(other, 4) ? 1 : 0;
                    due(text + " alike(" + one + ", " + other + ", 0)", x.alike(one, other, 0), want);
                    due(text + " alike(" + one + ", " + other + ", 1)", x.alike(one, other, 1), want);
                }
            }
        }
        PunCourts x = Check.court("rose0rus0oak0hy0yh0");
        for (int way = 0; way < 2; way++) {
            due("rose, rus", x.alike(0, 1, way), 1);
            due("rose, oak", x.alike(0, 2, way), 0);
            due("hy, yh", x.alike(3, 4, way), 1);
            due("hy, oak", x.alike(3, 2, way), 0);
            due("no such name", x.alike(5, 0, way), NO_SUCH);
            due("no such name", x.alike(0, 5, way), NO_SUCH);
            due("no such name", x.alike(-1, 0, way), NO_SUCH);
            due("no such name", x.alike(0, Integer.MIN_VALUE, way), NO_SUCH);
        }
        due("way 2", x.alike(0, 1, 2), BAD_VALUE);
        due("way -1", x.alike(0, 1, -1), BAD_VALUE);
        due("no such name first", x.alike(0, 5, 2), NO_SUCH);
        due("nothing recorded", x.count(14), 1);
    }

    // Promise 12
    private static void corners() {
        PunCourts x = Check.court("rose3park5");
        due("corner(12, 0)", x.corner(12, 0), NO_SUCH);
        due("corner(-1, 0)", x.corner(-1, 0), NO_SUCH);
        due("corner(MAX, 0)", x.corner(Integer.MAX_VALUE, 0), NO_SUCH);
        due("no such corner first", x.corner(12, 6), NO_SUCH);
        due("corner(0, 6)", x.corner(0, 6), BAD_VALUE);
        due("corner(0, -1)", x.corner(0, -1), BAD_VALUE);
        due("corner(0, MIN)", x.corner(0, Integer.MIN_VALUE), BAD_VALUE);
        x.set(PunCourts.POSTS, 1);
        x.withdraw(1);
        x.pass(7);
        due("given by days to 0", x.corner(0, 0), 0);
        x.give(0, 6);
        x.issue();
        x.strip(6);
        x.give(0, 6);
        due("name", x.corner(6, 0), 0);
        due("owes", x.corner(6, 1), 5);
        due("set up", x.corner(6, 2), 0);
        due("day", x.corner(6, 3), 7);
        due("how often", x.corner(6, 4), 2);
        due("map", x.corner(6, 5), 0);
        x.pass(2);
        due("owes less", x.corner(6, 1), 3);
        due("set up more", x.corner(6, 2), 2);
        x.withdraw(0);
        due("no name", x.corner(6, 0), NONE);
        due("no day", x.corner(6, 3), NONE);
        due("how often still", x.corner(6, 4), 2);
        due("map still", x.corner(6, 5), 0);
    }

    // Promise 13
    private static void reasons() {
        PunCourts x = Check.court("rose3rus5park3oak1");
        due("no such name", x.why(4, 0), NO_SUCH);
        due("no such name", x.why(-1, 0), NO_SUCH);
        due("no such corner", x.why(0, 12), NO_SUCH);
        due("no such corner", x.why(0, -1), NO_SUCH);
        due("neither", x.why(Integer.MIN_VALUE, Integer.MAX_VALUE), NO_SUCH);
        due("free", x.why(0, 0), 0);
        x.give(0, 0);
        due("2 bears it", x.why(0, 0), 2);
        due("4 a pun", x.why(1, 3), 4);
        due("4 not by itself", x.why(1, 0), 6);
        due("free at 4", x.why(1, 4), 0);
        due("6 rests", x.why(2, 0), 6);
        due("5 higher honour, before 6", x.why(3, 0), 5);
        x.give(0, 4);
        due("3 BEARS bear it", x.why(0, 8), 3);
        due("2 before 3", x.why(0, 4), 2);
        due("4 before 6: a pun of another corner", x.why(1, 2), 4);
        x.give(2, 2);
        due("4 before 6", x.why(1, 2), 4);
        due("3 before 6", x.why(0, 2), 3);
        x.give(2, 3);
        due("3 before 2 never: 2 comes first", x.why(2, 3), 2);
        x.withdraw(0);
        due("1 withdrawn", x.why(0, 0), 1);
        x.withdraw(2);
        due("1 everywhere", x.why(2, 2), 1);
        PunCourts y = Check.court("rose3park3oak9");
        y.give(0, 5);
        due("equal honour is not higher: 6", y.why(1, 5), 6);
        y.pass(9);
        due("9 days are fewer than 10", y.why(1, 5), 6);
        y.pass(1);
        due("10 days are not", y.why(1, 5), 0);
        y.honour(0, 4);
        due("5 by the honour of now", y.why(1, 5), 5);
        due("higher than that", y.why(2, 4), 0);
        y.set(PunCourts.RESTS, 11);
        due("RESTS of now", y.why(2, 5), 6);
        y.set(PunCourts.RESTS, 10);
        due("RESTS of now", y.why(2, 5), 0);
        y.give(2, 5);
        due("rests from the day on which it was given", y.why(0, 5), 5);
        y.honour(0, 9);
        due("that is day 10", y.why(0, 5), 6);
        y.pass(9);
        due("on day 19", y.why(0, 5), 6);
        y.pass(1);
        due("on day 20", y.why(0, 5), 0);
        PunCourts z = Check.court("rose9rus3park1");
        z.set(PunCourts.RESTS, 0);
        z.give(0, 4);
        z.give(2, 5);
        due("4 before 5", z.why(1, 5), 4);
        due("0 at rest 0", z.why(0, 5), 0);
        due("5", z.why(1, 4), 5);
    }

    private static void reasonsWhenSettingsShrink() {
        PunCourts x = Check.court("rose3park3");
        x.set(PunCourts.BEARS, 3);
        x.give(0, 0);
        x.give(0, 4);
        x.give(0, 8);
        due("3 bear it", x.why(0, 11), 3);
        x.set(PunCourts.BEARS, 2);
        due("more than BEARS bear it", x.why(0, 11), 3);
        x.set(PunCourts.BEARS, 4);
        due("fewer than BEARS bear it", x.why(0, 11), 0);
        x.set(PunCourts.BEARS, 1);
        due("2 first", x.why(0, 0), 2);
        due("park", x.why(1, 11), 0);
    }

    private static void puns() {
        for (int near = 0; near <= 11; near++) {
            PunCourts x = Check.court("rose3rus3");
            x.set(PunCourts.NEAR, near);
            x.set(PunCourts.RESTS, 0);
            x.give(0, 5);
            for (int c = 0; c < 12; c++) {
                int distance = Math.abs(c - 5);
                due("near " + near + " corner " + c, x.why(1, c), distance != 0 && distance <= near ? 4 : 0);
                due("the same name is no pun", x.why(0, c), c == 5 ? 2 : 0);
            }
        }
        PunCourts twice = Check.court("rose3rose3");
        twice.give(0, 0);
        due("the same letters applied for twice are two names", twice.why(1, 1), 4);
        PunCourts mute = Check.court("hy1yh1");
        mute.give(0, 0);
        due("both without signs", mute.why(1, 1), 4);
    }

    // Promise 14
    private static void counts() {
        PunCourts x = Check.court("rose3park5king5");
        due("count(-1)", x.count(-1), BAD_VALUE);
        due("count(15)", x.count(15), BAD_VALUE);
        due("count(MAX)", x.count(Integer.MAX_VALUE), BAD_VALUE);
        due("count(MIN)", x.count(Integer.MIN_VALUE), BAD_VALUE);
        x.set(PunCourts.NEAR, 4);
        x.set(PunCourts.BEARS, 5);
        x.set(PunCourts.POSTS, 6);
        x.set(PunCourts.RESTS, 7);
        due("NEAR", x.count(0), 4);
        due("BEARS", x.count(1), 5);
        due("POSTS", x.count(2), 6);
        due("RESTS", x.count(3), 7);
        due("names", x.count(5), 3);
        due("all wait", x.count(6), 3);
        x.give(0, 0);
        x.give(0, 6);
        due("2 wait", x.count(6), 2);
        due("2 corners", x.count(7), 2);
        due("owed", x.count(8), 7);
        due("set up", x.count(9), 0);
        due("given each time", x.count(10), 2);
        x.withdraw(2);
        due("1 waits", x.count(6), 1);
        due("names stay", x.count(5), 3);
        x.pass(1);
        due("days", x.count(4), 1);
        due("given by a day", x.count(10), 3);
        due("0 wait", x.count(6), 0);
        due("set up", x.count(9), 6);
        due("owed less", x.count(8), 5);
        Check.type(x, "abc");
        due("pad", x.count(13), 3);
        due("history", x.count(14), 6);
    }

    private static void punPairs() {
        PunCourts x = Check.court("rose3rus3race3park3");
        x.set(PunCourts.NEAR, 0);
        x.set(PunCourts.BEARS, 6);
        x.give(0, 0);
        x.give(0, 1);
        due("alike but the same", x.count(12), 0);
        x.give(1, 11);
        due("also far from one another", x.count(12), 2);
        x.give(2, 5);
        due("three unlike names", x.count(12), 5);
        x.give(3, 6);
        due("another sound", x.count(12), 5);
        PunCourts beside = Check.court("rose3rus3");
        beside.set(PunCourts.NEAR, 0);
        beside.give(0, 10);
        beside.give(1, 11);
        due("beside one another", beside.count(12), 1);
        x.strip(0);
        due("one less", x.count(12), 3);
    }

    // Promise 15
    private static void bestCorners() {
        PunCourts x = Check.court("rose3rus3park3");
        due("bestCorner(3)", x.bestCorner(3), NO_SUCH);
        due("bestCorner(-1)", x.bestCorner(-1), NO_SUCH);
        due("bestCorner(MAX)", x.bestCorner(Integer.MAX_VALUE), NO_SUCH);
        due("the lowest", x.bestCorner(0), 0);
        x.give(0, 2);
        due("beside it for itself", x.bestCorner(0), 0);
        due("far from the pun", x.bestCorner(1), 6);
        x.set(PunCourts.NEAR, 11);
        due("nowhere but its own corner, which rests", x.bestCorner(1), NONE);
        x.set(PunCourts.RESTS, 0);
        due("in its place", x.bestCorner(1), 2);
        x.set(PunCourts.BEARS, 1);
        due("BEARS bear it", x.bestCorner(0), NONE);
        x.withdraw(2);
        due("withdrawn", x.bestCorner(2), NONE);
        for (int c = 0; c < 12; c++) {
            due("not given", x.corner(c, 0), c == 2 ? 0 : NONE);
        }
    }

    // Promise 16
    private static void untilBorne() {
        PunCourts x = Check.court("rose3park5king5");
        due("untilBorne(3)", x.untilBorne(3), NO_SUCH);
        due("untilBorne(-1)", x.untilBorne(-1), NO_SUCH);
        due("park is first", x.untilBorne(1), 1);
        due("then king", x.untilBorne(2), 2);
        due("then rose", x.untilBorne(0), 3);
        x.give(0, 0);
        due("it is", x.untilBorne(0), 0);
        x.withdraw(2);
        due("never", x.untilBorne(2), NONE);
        due("nothing passed", x.count(4), 0);
        PunCourts y = crowded();
        due("when the rests are over", y.untilBorne(1), 11);
        y.set(PunCourts.RESTS, 60);
        due("later", y.untilBorne(1), 61);
        y.pass(60);
        due("on the next day", y.untilBorne(1), 1);
        y.honour(1, 0);
        due("a lower honour never", y.untilBorne(1), NONE);
        longWait();
    }

    /** Puns and rests keep name 11 waiting for 792 days in all: a run that a search has found. */
    private static void longWait() {
        PunCourts x = Check.court("cb0fd0df0ba0cb0ba0ca0fa0ba0da0cb0ba0df0fa0ca0fa0fc0fa0");
        x.set(PunCourts.NEAR, 4);
        x.set(PunCourts.BEARS, 5);
        x.set(PunCourts.RESTS, 29);
        x.pass(4);
        x.give(6, 10);
        int[] passed = {40, 99, 99, 99, 99, 51};
        for (int days : passed) {
            due("not within 300", x.untilBorne(11), NONE);
            x.pass(days);
        }
        due("301 are too many", x.untilBorne(11), NONE);
        x.pass(1);
        due("300 are not", x.untilBorne(11), 300);
        x.pass(99);
        x.pass(99);
        x.pass(99);
        due("three are left", x.untilBorne(11), 3);
        x.pass(2);
        due("it still waits", x.name(11, 1), 0);
        x.pass(1);
        due("it is borne", x.name(11, 1), 1);
        due("it is", x.untilBorne(11), 0);
    }

    /** All corners bear name 0, name 1 waits and is unlike it. */
    private static PunCourts crowded() {
        PunCourts x = Check.court("rose3park3king3");
        x.set(PunCourts.BEARS, 6);
        x.set(PunCourts.POSTS, 9);
        for (int c = 0; c < 6; c++) {
            x.give(0, c);
            x.give(2, c + 6);
        }
        return x;
    }

    // Promise 17
    private static void untilPosted() {
        PunCourts x = Check.court("rose3");
        x.withdraw(0);
        due("none is owed", x.untilPosted(), 0);
        PunCourts y = Check.court("rose3");
        due("none is owed now, though days would bring some", y.untilPosted(), 0);
        y.give(0, 5);
        due("4 posts, 2 a day", y.untilPosted(), 2);
        y.set(PunCourts.POSTS, 3);
        due("4 posts, 3 a day", y.untilPosted(), 2);
        y.set(PunCourts.POSTS, 4);
        due("4 posts, 4 a day", y.untilPosted(), 1);
        y.set(PunCourts.POSTS, 1);
        due("4 posts, 1 a day", y.untilPosted(), 4);
        y.set(PunCourts.POSTS, 0);
        due("never", y.untilPosted(), NONE);
        due("nothing passed", y.count(4), 0);
        PunCourts z = Check.court("rose3");
        z.set(PunCourts.POSTS, 1);
        for (int i = 0; i < 99; i++) {
            z.give(0, 5);
            z.strip(5);
        }
        z.withdraw(0);
        due("99 times 5", z.count(8), 495);
        z.pass(99);
        z.pass(95);
        due("301 are left", z.count(8), 301);
        due("not within 300", z.untilPosted(), NONE);
        z.pass(1);
        due("just within 300", z.untilPosted(), 300);
    }

    // Promise 18
    private static void ifPassed() {
        PunCourts x = Check.court("rose3park5");
        due("ifPassed(0, 0)", x.ifPassed(0, 0), BAD_VALUE);
        due("ifPassed(301, 0)", x.ifPassed(301, 0), BAD_VALUE);
        due("ifPassed(-1, 0)", x.ifPassed(-1, 0), BAD_VALUE);
        due("ifPassed(MAX, 0)", x.ifPassed(Integer.MAX_VALUE, 0), BAD_VALUE);
        due("ifPassed(1, -1)", x.ifPassed(1, -1), BAD_VALUE);
        due("ifPassed(1, 3)", x.ifPassed(1, 3), BAD_VALUE);
        due("one is given", x.ifPassed(1, 0), 1);
        due("two are set up", x.ifPassed(1, 1), 2);
        due("one is owed then", x.ifPassed(1, 2), 1);
        due("two are given", x.ifPassed(300, 0), 2);
        due("seven are set up", x.ifPassed(300, 1), 7);
        due("none is owed then", x.ifPassed(300, 2), 0);
        x.pass(1);
        due("only those of the days", x.ifPassed(300, 0), 1);
        due("only those of the days", x.ifPassed(300, 1), 5);
        due("nothing passed", x.count(4), 1);
    }

    // Promise 19
    private static void putting() {
        PunCourts x = new PunCourts();
        due("put(0)", x.put(0L), BAD_VALUE);
        due("a code of 32", x.put(32L), BAD_VALUE);
        due("a code of 127", x.put(127L), BAD_VALUE);
        due("a code of 255", x.put(255L), BAD_VALUE);
        due("all ones", x.put(-1L), BAD_VALUE);
        due("lowest long", x.put(Long.MIN_VALUE), BAD_VALUE);
        due("highest long", x.put(Long.MAX_VALUE), BAD_VALUE);
        due("a gap", x.put('a' << 16 | 'b'), BAD_VALUE);
        due("the last is 0", x.put('a' << 8), BAD_VALUE);
        due("one bit above a 0", x.put(1L << 63 | 'b'), BAD_VALUE);
        due("a bad one in front", x.put(31L << 8 | 'b'), BAD_VALUE);
        due("a bad one as the eighth", x.put(Check.code("a") | Check.code(" bbbbbbb")), BAD_VALUE);
        due("nothing is put", x.count(13), 0);
        due("33", x.put(33L), 1);
        due("126", x.put(126L), 2);
        due("three", x.put(Check.code("abc")), 5);
        due("eight", x.put(Check.code("~~~~~~~~")), 13);
        due("no change", x.count(14), 0);
        x.wipe();
        x.put(Check.code("ab"));
        x.put(Check.code("3"));
        due("in their order", x.fault(), NONE);
        due("read", x.read(), 1);
        for (int i = 1; i <= 7; i++) {
            due("put " + i, x.put(Check.code("abcdefgh")), 8 * i);
        }
        due("five are too many", x.put(Check.code("abcde")), TOO_MANY);
        due("bad value first", x.put(Check.code("abcd ")), BAD_VALUE);
        due("four are not", x.put(Check.code("abcd")), 60);
        due("one is too many", x.put(Check.code("a")), TOO_MANY);
        due("bad value first", x.put(0), BAD_VALUE);
        due("full", x.count(13), 60);
    }

    // Promise 20
    private static void wiping() {
        PunCourts x = new PunCourts();
        due("empty", x.wipe(), 0);
        Check.type(x, "abc1d");
        due("five", x.wipe(), 5);
        due("empty again", x.count(13), 0);
        due("empty again", x.wipe(), 0);
        due("no change", x.count(14), 0);
        due("nothing to undo", x.undo(), NOT_POSSIBLE);
    }

    // Promise 21
    private static void faults() {
        fault("", 0);
        fault("a", 1);
        fault("ab", 2);
        fault("ab1", NONE);
        fault("a1", 1);
        fault("1", 0);
        fault("ab12", 3);
        fault("ab1c", 4);
        fault("ab1cd", 5);
        fault("ab1cd2", NONE);
        fault("ab1c2", 4);
        fault("abcdefghi", 9);
        fault("abcdefghi1", NONE);
        fault("abcdefghij", 9);
        fault("abcdefghij1", 9);
        fault("Ab1", 0);
        fault("aB1", 1);
        fault("ab1!", 3);
        fault("ab/", 2);
        fault("ab:", 2);
        fault("a`1", 1);
        fault("a{1", 1);
        fault("az0za9", NONE);
        fault("ab1_cd", 3);
        fault(TWENTY, NONE);
        fault(TWENTY.substring(0, 59), 59);
        fault(TWENTY.substring(0, 59) + "z", 60);
        fault(TWENTY.substring(0, 59) + "~", 59);
    }

    private static void fault(String text, int want) {
        PunCourts x = new PunCourts();
        Check.type(x, text);
        due("fault of " + text, x.fault(), want);
        due("length of " + text, x.count(13), text.length());
        if (want != NONE) {
            due("read of " + text, x.read(), BAD_TEXT);
        }
    }

    // Promise 22
    private static void undoing() {
        PunCourts x = new PunCourts();
        due("nothing", x.undo(), NOT_POSSIBLE);
        for (int i = 1; i <= 8; i++) {
            x.set(PunCourts.RESTS, 20 + i);
            due("history", x.count(14), Math.min(i, 6));
        }
        for (int i = 7; i >= 2; i--) {
            due("undo", x.undo(), i - 2);
            due("as before", x.count(PunCourts.RESTS), 20 + i);
        }
        due("the oldest were dropped", x.undo(), NOT_POSSIBLE);
        due("still", x.count(PunCourts.RESTS), 22);
        x.set(PunCourts.NEAR, 1);
        due("goes on", x.count(14), 1);
        due("goes on", x.undo(), 0);
        due("goes on", x.count(PunCourts.NEAR), 3);
        PunCourts y = new PunCourts();
        Check.type(y, "rose3");
        y.read();
        Check.type(y, "park5");
        due("undo a read", y.undo(), 0);
        due("no names", y.count(5), 0);
        due("the pad stays", y.count(13), 5);
        due("and is read", y.read(), 1);
        due("another sound in the same place", y.name(0, 4), 152);
        PunCourts shorter = Check.court("cathedral3");
        shorter.undo();
        Check.read(shorter, "ca3so3");
        due("no letter of the undone name is heard", shorter.name(0, 4), 2);
        due("so it is alike by sounds", shorter.alike(0, 1, 0), 1);
        due("and by letters", shorter.alike(0, 1, 1), 1);
        due("and the other way round", shorter.alike(1, 0, 1), 1);
        PunCourts z = new PunCourts();
        z.save(0);
        z.set(PunCourts.NEAR, 7);
        z.save(1);
        z.undo();
        due("slots stay", z.restore(1), 0);
        due("with what was saved", z.count(PunCourts.NEAR), 7);
    }

    private static void errorsRecordNothing() {
        PunCourts x = Check.court("rose3");
        x.set(9, 9);
        x.read();
        x.honour(5, 5);
        x.withdraw(5);
        x.give(0, 12);
        x.strip(0);
        x.pass(0);
        x.restore(0);
        x.restore(2);
        due("only the read", x.count(14), 1);
        x.save(0);
        x.wipe();
        x.put('a');
        x.fault();
        x.untilBorne(0);
        x.untilPosted();
        x.ifPassed(9, 1);
        x.bestCorner(0);
        due("these are no changes", x.count(14), 1);
    }

    // Promise 23
    private static void saving() {
        PunCourts x = new PunCourts();
        due("save(2)", x.save(2), BAD_VALUE);
        due("save(-1)", x.save(-1), BAD_VALUE);
        due("save(MAX)", x.save(Integer.MAX_VALUE), BAD_VALUE);
        due("save(MIN)", x.save(Integer.MIN_VALUE), BAD_VALUE);
        due("day 0", x.save(0), 0);
        x.pass(7);
        due("day 7", x.save(1), 7);
        due("the other slot", x.restore(0), 0);
        due("this slot", x.restore(1), 7);
        x.pass(2);
        due("overwritten", x.save(1), 9);
        due("restored", x.restore(1), 9);
        due("the other is as it was", x.restore(0), 0);
    }

    // Promise 24
    private static void restoring() {
        PunCourts x = Check.court("rose3rus5park5");
        due("restore(2)", x.restore(2), BAD_VALUE);
        due("restore(-1)", x.restore(-1), BAD_VALUE);
        due("restore(MAX)", x.restore(Integer.MAX_VALUE), BAD_VALUE);
        due("restore(0)", x.restore(0), NOT_POSSIBLE);
        x.give(0, 3);
        x.issue();
        x.pass(4);
        x.save(0);
        due("the other is empty", x.restore(1), NOT_POSSIBLE);
        String saved = Check.state(x);
        x.set(PunCourts.POSTS, 5);
        x.withdraw(1);
        x.issue();
        x.pass(50);
        Check.read(x, "oak3king5");
        Check.type(x, "abc");
        due("restore", x.restore(0), 4);
        Check.same("all is as it was saved", Check.state(x), saved);
        due("the pad stays", x.count(13), 3);
        due("it is a change", x.undo(), 5);
        due("undone: the days", x.count(4), 54);
        due("undone: the names", x.count(5), 5);
        due("the slot keeps it", x.restore(0), 4);
        x.pass(9);
        due("also when time goes on", x.restore(0), 4);
        Check.same("as it was saved", Check.state(x), saved);
        due("the history is kept", x.count(14), 6);
    }
}
