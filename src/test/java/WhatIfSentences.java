/** The sentences of the promises on the calls that tell what would be. */
final class WhatIfSentences {
    private static final int NO_SUCH = -1, BAD_VALUE = -2, NONE = -6;
    private static final int[] NO_INDEX = {-1, Integer.MIN_VALUE, Integer.MAX_VALUE};

    private WhatIfSentences() {
    }

    private static void due(String call, long got, long want) {
        Check.due(call, got, want);
    }

    @Sentence(in = "Texts", says = "Ahead of the calls `bestCorner`, `untilBorne`, `untilPosted`, `ifPassed` "
            + "the interface says: ---- what if; nothing changes.")
    static void textsWhatIfChangesNothing() {
        PunCourts x = busy();
        x.bestCorner(1);
        x.untilBorne(1);
        x.untilPosted();
        for (int what = 0; what < 3; what++) {
            x.ifPassed(1, what);
            x.ifPassed(300, what);
        }
        Check.same("state", Check.state(x), Check.state(busy()));
        Check.same("rest", Check.rest(x), Check.rest(busy()));
    }

    private static PunCourts busy() {
        PunCourts x = Check.court("ba3pa5ca9da1");
        x.save(1);
        x.give(0, 3);
        x.issue();
        x.pass(1);
        Check.type(x, "ca3");
        return x;
    }

    // ---- Promise 15: bestCorner

    @Sentence(in = "Promise 15: bestCorner", says = "Finds the lowest corner for which a name is not refused. "
            + "Returns the corner;")
    static void promise15TheLowest() {
        PunCourts x = Check.court("ba3pa3ca3");
        due("the first", x.bestCorner(0), 0);
        x.give(0, 0);
        due("behind the pun", x.bestCorner(1), 4);
        due("behind the rest", x.bestCorner(2), 1);
        x.set(PunCourts.NEAR, 10);
        due("the last", x.bestCorner(1), 11);
        x.set(PunCourts.RESTS, 0);
        due("in place of the pun", x.bestCorner(1), 0);
        due("beside itself", x.bestCorner(0), 1);
    }

    @Sentence(in = "Promise 15: bestCorner", says = "NO_SUCH if there is no such name;")
    static void promise15NoSuchName() {
        due("no names", new PunCourts().bestCorner(0), NO_SUCH);
        PunCourts x = Check.court("ba3");
        due("name 1", x.bestCorner(1), NO_SUCH);
        for (int name : NO_INDEX) {
            due("name " + name, x.bestCorner(name), NO_SUCH);
        }
    }

    @Sentence(in = "Promise 15: bestCorner", says = "NONE if there is none.")
    static void promise15None() {
        PunCourts x = Check.court("ba3pa3ca3");
        x.set(PunCourts.NEAR, 11);
        x.give(0, 6);
        due("a pun everywhere", x.bestCorner(1), NONE);
        x.set(PunCourts.BEARS, 1);
        due("borne by BEARS", x.bestCorner(0), NONE);
        x.withdraw(2);
        due("withdrawn", x.bestCorner(2), NONE);
    }

    // ---- Promise 16: untilBorne

    @Sentence(in = "Promise 16: untilBorne", says = "Tells behind how many days a name is borne, "
            + "if nothing else is done. Returns how many,")
    static void promise16HowMany() {
        PunCourts x = Check.court("ba3ca5da5");
        due("the first", x.untilBorne(1), 1);
        due("the second", x.untilBorne(2), 2);
        due("the third", x.untilBorne(0), 3);
        x.pass(1);
        due("one day later", x.untilBorne(2), 1);
        PunCourts y = taken();
        y.set(PunCourts.RESTS, 60);
        due("when 60 days are over", y.untilBorne(2), 61);
        y.set(PunCourts.RESTS, 0);
        due("at once", y.untilBorne(2), 1);
    }

    /** All corners bear name 0 or 1 since the day 0; name 2 waits and has the same honour. */
    private static PunCourts taken() {
        PunCourts x = Check.court("ba3ca3da3");
        x.set(PunCourts.BEARS, 6);
        for (int c = 0; c < 12; c++) {
            x.give(c / 6, c);
        }
        return x;
    }

    @Sentence(in = "Promise 16: untilBorne", says = "0 if it is;")
    static void promise16ItIs() {
        PunCourts x = Check.court("ba3");
        x.give(0, 11);
        due("borne", x.untilBorne(0), 0);
        x.strip(11);
        due("no more", x.untilBorne(0), 1);
    }

    @Sentence(in = "Promise 16: untilBorne", says = "NO_SUCH if there is no such name;")
    static void promise16NoSuchName() {
        due("no names", new PunCourts().untilBorne(0), NO_SUCH);
        PunCourts x = Check.court("ba3");
        due("name 1", x.untilBorne(1), NO_SUCH);
        for (int name : NO_INDEX) {
            due("name " + name, x.untilBorne(name), NO_SUCH);
        }
    }

    @Sentence(in = "Promise 16: untilBorne", says = "NONE if it is not within 300.")
    static void promise16Never() {
        PunCourts x = taken();
        x.honour(2, 2);
        due("of a lower honour than all", x.untilBorne(2), NONE);
        x.withdraw(2);
        due("withdrawn", x.untilBorne(2), NONE);
        x.withdraw(0);
        due("withdrawn, once borne", x.untilBorne(0), NONE);
    }

    /** The names and numbers are those of a run, found by a search, in which name 11 waits for 792 days. */
    @Sentence(in = "Promise 16: untilBorne", says = "NONE if it is not within 300.")
    static void promise16Within300() {
        PunCourts x = Check.court("cb0fd0df0ba0cb0ba0ca0fa0ba0da0cb0ba0df0fa0ca0fa0fc0fa0");
        x.set(PunCourts.NEAR, 4);
        x.set(PunCourts.BEARS, 5);
        x.set(PunCourts.RESTS, 29);
        x.pass(4);
        x.give(6, 10);
        int[] passed = {99, 99, 99, 99, 91};
        for (int days : passed) {
            x.pass(days);
        }
        due("behind 301", x.untilBorne(11), NONE);
        x.pass(1);
        due("behind 300", x.untilBorne(11), 300);
        x.pass(1);
        due("behind 299", x.untilBorne(11), 299);
    }

    // ---- Promise 17: untilPosted

    @Sentence(in = "Promise 17: untilPosted", says = "Tells behind how many days no post is owed, "
            + "if nothing else is done. Returns how many,")
    static void promise17HowMany() {
        int[] posts = {1, 2, 3, 4, 9};
        int[] due = {4, 2, 2, 1, 1};
        for (int i = 0; i < posts.length; i++) {
            PunCourts x = Check.court("ba3");
            x.give(0, 5);
            x.set(PunCourts.POSTS, posts[i]);
            due("4 posts, " + posts[i] + " a day", x.untilPosted(), due[i]);
        }
        PunCourts x = Check.court("ba3ca3");
        x.give(0, 5);
        due("a name that is given in these days adds its own", x.untilPosted(), 4);
    }

    @Sentence(in = "Promise 17: untilPosted", says = "0 if none is;")
    static void promise17NoneIs() {
        due("a new court", new PunCourts().untilPosted(), 0);
        PunCourts x = Check.court("ba3");
        x.set(PunCourts.POSTS, 0);
        due("none is owed now", x.untilPosted(), 0);
        x.set(PunCourts.POSTS, 9);
        x.pass(1);
        due("all are set up", x.untilPosted(), 0);
    }

    @Sentence(in = "Promise 17: untilPosted", says = "NONE if some is for all of the next 300.")
    static void promise17ForAll300() {
        PunCourts x = Check.court("ba3");
        x.set(PunCourts.POSTS, 0);
        x.give(0, 5);
        due("no posts are set up", x.untilPosted(), NONE);
        PunCourts y = Check.court("ba3");
        y.set(PunCourts.POSTS, 1);
        for (int i = 0; i < 60; i++) {
            y.give(0, 5);
            y.strip(5);
        }
        y.withdraw(0);
        due("300 are owed", y.count(8), 300);
        due("one a day, 300 days", y.untilPosted(), 300);
        y.undo();
        y.give(0, 5);
        y.strip(5);
        y.withdraw(0);
        y.pass(4);
        due("301 are owed", y.count(8), 301);
        due("301 days", y.untilPosted(), NONE);
    }

    // ---- Promise 18: ifPassed

    @Sentence(in = "Promise 18: ifPassed", says = "`days`: 1 to 300")
    static void promise18From1To300() {
        PunCourts x = Check.court(TermsSentences.TWENTY);
        x.set(PunCourts.RESTS, 0);
        due("1", x.ifPassed(1, 0), 1);
        due("300", x.ifPassed(300, 0), 300);
        for (int i = 0; i < 101; i++) {
            x.pass(99);
        }
        due("300 behind the day 9999", x.ifPassed(300, 0), 300);
    }

    @Sentence(in = "Promise 18: ifPassed", says = "0 names that are given, 1 posts that are set up, "
            + "2 posts that are owed then")
    static void promise18What() {
        PunCourts x = Check.court("ba3ca3");
        x.give(0, 5);
        x.pass(1);
        due("given before", x.count(10), 2);
        due("set up before", x.count(9), 2);
        due("none more is given", x.ifPassed(1, 0), 0);
        due("set up in a day", x.ifPassed(1, 1), 2);
        due("owed then", x.ifPassed(1, 2), 3);
        due("set up in 300", x.ifPassed(300, 1), 5);
        due("none is owed then", x.ifPassed(300, 2), 0);
        x.strip(5);
        due("one is given", x.ifPassed(300, 0), 1);
        due("nothing is given yet", x.count(10), 2);
    }

    @Sentence(in = "Promise 18: ifPassed", says = "Returns the number; BAD_VALUE if an argument is out of range.")
    static void promise18OutOfRange() {
        PunCourts x = Check.court("ba3");
        for (int what = 0; what <= 2; what++) {
            due("0 days, " + what, x.ifPassed(0, what), BAD_VALUE);
            due("301 days, " + what, x.ifPassed(301, what), BAD_VALUE);
            for (int days : NO_INDEX) {
                due("days " + days + ", " + what, x.ifPassed(days, what), BAD_VALUE);
            }
        }
        due("what 3", x.ifPassed(1, 3), BAD_VALUE);
        for (int what : NO_INDEX) {
            due("what " + what, x.ifPassed(300, what), BAD_VALUE);
        }
    }
}
