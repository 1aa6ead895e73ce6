/** The sentences on corners, days and maps. */
final class CornersSentences {
    private static final int NO_SUCH = -1, NOT_POSSIBLE = -5, NONE = -6;

    private CornersSentences() {
    }

    private static void due(String call, long got, long want) {
        Check.due(call, got, want);
    }

    // ---- Corners

    @Sentence(in = "Corners", says = "There are 12 corners, 0 to 11, in a row")
    static void cornersTwelve() {
        PunCourts x = new PunCourts();
        due("corner -1", x.corner(-1, 1), NO_SUCH);
        for (int c = 0; c <= 11; c++) {
            due("corner " + c, x.corner(c, 1), 0);
        }
        due("corner 12", x.corner(12, 1), NO_SUCH);
    }

    @Sentence(in = "Corners", says = "There are 12 corners, 0 to 11, in a row")
    static void cornersARowIsNoRing() {
        PunCourts x = Check.court("ba3pa3");
        x.set(PunCourts.NEAR, 10);
        x.give(0, 0);
        due("11 is not beside 0", x.corner(11, 1), 0);
        due("nor near it", x.why(1, 11), 0);
        PunCourts y = Check.court("ba3");
        y.give(0, 11);
        due("0 is not beside 11", y.corner(0, 1), 0);
        due("owed in all", y.count(8), 3);
    }

    @Sentence(in = "Corners", says = "each bears a name or none (at first), and owes posts.")
    static void cornersBearNoneAtFirst() {
        PunCourts x = Check.court("ba3");
        for (int c = 0; c < 12; c++) {
            due("name of " + c, x.corner(c, 0), NONE);
            due("owed by " + c, x.corner(c, 1), 0);
        }
    }

    @Sentence(in = "Corners", says = "The distance of two corners is the difference of their numbers.")
    static void cornersDistance() {
        for (int near = 0; near <= 11; near++) {
            for (int borne = 0; borne <= 11; borne++) {
                PunCourts x = Check.court("ba3pa3");
                x.set(PunCourts.NEAR, near);
                x.set(PunCourts.RESTS, 0);
                x.give(0, borne);
                for (int c = 0; c <= 11; c++) {
                    boolean pun = c != borne && Math.abs(c - borne) <= near;
                    due("NEAR " + near + ", from " + borne + " to " + c, x.why(1, c), pun ? 4 : 0);
                }
            }
        }
    }

    /** Names: 0 and 1 are puns, 2 has a higher honour and 3 a lower one than 0. */
    private static PunCourts reasons() {
        PunCourts x = Check.court("ba3pa3ca9da1fa3");
        x.set(PunCourts.NEAR, 1);
        return x;
    }

    @Sentence(in = "Corners", says = "A name is refused for a corner for the first of these reasons that applies: ")
    static void cornersWithdrawnBeforeAll() {
        PunCourts x = reasons();
        x.give(1, 1);
        x.give(2, 5);
        x.give(3, 8);
        due("4", x.why(0, 2), 4);
        due("5", x.why(0, 5), 5);
        due("6", x.why(0, 8), 6);
        x.withdraw(0);
        due("1 before 4", x.why(0, 2), 1);
        due("1 before 5", x.why(0, 5), 1);
        due("1 before 6", x.why(0, 8), 1);
    }

    @Sentence(in = "Corners", says = "A name is refused for a corner for the first of these reasons that applies: ")
    static void cornersBearingItBeforeTheRest() {
        PunCourts x = reasons();
        x.set(PunCourts.BEARS, 1);
        x.set(PunCourts.NEAR, 0);
        x.give(0, 0);
        x.give(1, 1);
        x.set(PunCourts.NEAR, 1);
        due("2 before 3, 4 and 6", x.why(0, 0), 2);
        x.set(PunCourts.RESTS, 0);
        due("2 before 3 and 4", x.why(0, 0), 2);
        x.set(PunCourts.BEARS, 2);
        due("2 before 4", x.why(0, 0), 2);
        x.strip(1);
        x.set(PunCourts.BEARS, 1);
        due("2 before 3", x.why(0, 0), 2);
        x.set(PunCourts.BEARS, 2);
        x.set(PunCourts.RESTS, 1);
        due("2 before 6", x.why(0, 0), 2);
    }

    @Sentence(in = "Corners", says = "A name is refused for a corner for the first of these reasons that applies: ")
    static void cornersBearsPunsHonoursAndRests() {
        PunCourts x = reasons();
        x.give(0, 0);
        x.give(1, 4);
        x.give(2, 5);
        x.give(3, 3);
        x.give(2, 8);
        due("4 before 5 and 6", x.why(0, 5), 4);
        due("4 before 6", x.why(0, 3), 4);
        due("5 before 6", x.why(0, 8), 5);
        x.set(PunCourts.BEARS, 1);
        due("3 before 4, 5 and 6", x.why(0, 5), 3);
        due("3 before 4 and 6", x.why(0, 3), 3);
        due("3 before 5 and 6", x.why(0, 8), 3);
        x.set(PunCourts.RESTS, 0);
        due("3 before 4 and 5", x.why(0, 5), 3);
        due("3 before 4", x.why(0, 3), 3);
        due("3 before 5", x.why(0, 8), 3);
        x.set(PunCourts.BEARS, 2);
        due("4 before 5", x.why(0, 5), 4);
    }

    @Sentence(in = "Corners", says = "1 it was withdrawn;")
    static void cornersReason1() {
        PunCourts x = Check.court("ba3ca3");
        due("before", x.why(0, 0), 0);
        x.withdraw(0);
        for (int c = 0; c < 12; c++) {
            due("corner " + c, x.why(0, c), 1);
            due("another name", x.why(1, c), 0);
        }
    }

    @Sentence(in = "Corners", says = "2 the corner bears it;")
    static void cornersReason2() {
        PunCourts x = Check.court("ba3");
        x.give(0, 0);
        x.set(PunCourts.RESTS, 0);
        due("that corner", x.why(0, 0), 2);
        due("the one beside it", x.why(0, 1), 0);
        x.strip(0);
        due("no more", x.why(0, 0), 0);
    }

    @Sentence(in = "Corners", says = "3 BEARS corners bear it;")
    static void cornersReason3() {
        PunCourts x = Check.court("ba3ca3");
        x.give(0, 0);
        due("1 of 2", x.why(0, 5), 0);
        x.give(0, 11);
        due("2 of 2", x.why(0, 5), 3);
        due("another name", x.why(1, 5), 0);
        x.set(PunCourts.BEARS, 1);
        due("2 of 1", x.why(0, 5), 3);
        x.set(PunCourts.BEARS, 3);
        due("2 of 3", x.why(0, 5), 0);
        x.set(PunCourts.BEARS, 2);
        x.strip(0);
        due("1 of 2 again", x.why(0, 5), 0);
    }

    @Sentence(in = "Corners", says = "4 some corner at a distance of at most NEAR, other than this one, "
            + "bears another name that sounds alike (a pun);")
    static void cornersReason4() {
        PunCourts x = Check.court("ba3pa3ca3");
        x.set(PunCourts.RESTS, 0);
        x.give(0, 5);
        due("at NEAR below", x.why(1, 2), 4);
        due("at NEAR above", x.why(1, 8), 4);
        due("one farther below", x.why(1, 1), 0);
        due("one farther above", x.why(1, 9), 0);
        due("this one bears the pun", x.why(1, 5), 0);
        due("another name that does not sound alike", x.why(2, 4), 0);
        due("the same name is no other", x.why(0, 4), 0);
        x.set(PunCourts.NEAR, 0);
        due("NEAR is 0", x.why(1, 4), 0);
    }

    @Sentence(in = "Corners", says = "5 the corner bears a name with a higher honour;")
    static void cornersReason5() {
        PunCourts x = Check.court("ba4ca3da4fa5");
        x.set(PunCourts.RESTS, 0);
        x.give(0, 0);
        due("1 lower", x.why(1, 0), 5);
        due("the same", x.why(2, 0), 0);
        due("1 higher", x.why(3, 0), 0);
        x.honour(0, 9);
        x.honour(1, 0);
        due("0 below 9", x.why(1, 0), 5);
        due("a corner without a name", x.why(1, 1), 0);
    }

    @Sentence(in = "Corners", says = "6 the corner bears a name that it got fewer than RESTS days ago.")
    static void cornersReason6() {
        PunCourts x = Check.court("ba3ca3");
        x.give(0, 11);
        x.give(1, 6);
        x.pass(1);
        x.give(0, 0);
        due("0 days ago", x.why(1, 0), 6);
        x.pass(9);
        due("9 days ago", x.why(1, 0), 6);
        due("10 days ago", x.why(1, 11), 0);
        x.pass(1);
        due("10 days ago", x.why(1, 0), 0);
        x.set(PunCourts.RESTS, 11);
        due("10 days ago of 11", x.why(1, 0), 6);
        x.strip(0);
        due("it bears none now", x.why(1, 0), 0);
        x.set(PunCourts.RESTS, 0);
        x.give(1, 0);
        due("0 days ago of 0", x.why(0, 0), 0);
    }

    @Sentence(in = "Corners", says = "When a name is given to a corner, the corner bears it "
            + "in place of the one that it bore;")
    static void cornersInPlaceOfTheOld() {
        PunCourts x = Check.court("ba3ca3");
        x.set(PunCourts.RESTS, 0);
        x.give(0, 0);
        x.give(0, 5);
        x.give(1, 0);
        due("the new one", x.corner(0, 0), 1);
        due("the old one is left at 5", x.name(0, 2), 1 << 5);
        due("and is borne", x.name(0, 1), 1);
    }

    @Sentence(in = "Corners", says = "it got its name on the day of now;")
    static void cornersGotOnTheDayOfNow() {
        PunCourts x = Check.court("ba3ca3");
        x.set(PunCourts.RESTS, 0);
        x.give(0, 0);
        due("day 0", x.corner(0, 3), 0);
        x.withdraw(1);
        x.pass(99);
        x.give(0, 7);
        due("day 99", x.corner(7, 3), 99);
        due("still", x.corner(0, 3), 0);
        x.strip(0);
        x.give(0, 0);
        due("anew", x.corner(0, 3), 99);
    }

    @Sentence(in = "Corners", says = "it owes 2 posts more, and each corner beside it 1 more.")
    static void cornersPostsOwed() {
        int[][] owed = {{0, 2, 1, 0}, {5, 2, 1, 1}, {11, 2, 0, 1}};
        for (int[] row : owed) {
            PunCourts x = Check.court("ba3");
            int corner = row[0];
            x.give(0, corner);
            for (int c = 0; c < 12; c++) {
                int want = c == corner ? row[1] : c == corner + 1 ? row[2] : c == corner - 1 ? row[3] : 0;
                due("given to " + corner + ", owed by " + c, x.corner(c, 1), want);
            }
        }
        PunCourts x = Check.court("ba3ca3");
        x.give(0, 5);
        x.give(1, 6);
        x.give(0, 4);
        due("more than it owed", x.corner(5, 1), 4);
        due("more than it owed", x.corner(4, 1), 3);
    }

    @Sentence(in = "Corners", says = "A name that no corner bears any more waits again, "
            + "and stands in the queue by its number.")
    static void cornersWaitsAgainByNumber() {
        PunCourts x = Check.court("ba3ca3da3");
        x.set(PunCourts.RESTS, 0);
        x.give(1, 0);
        x.give(1, 5);
        due("ba, then da", x.name(2, 3), 1);
        x.strip(0);
        due("one corner bears it still", x.name(1, 3), NONE);
        x.strip(5);
        due("stripped: between ba", x.name(1, 3), 1);
        due("and da", x.name(2, 3), 2);
        x.give(1, 0);
        x.give(2, 0);
        due("replaced: behind ba", x.name(1, 3), 1);
        x.strip(0);
        due("and before da", x.name(2, 3), 2);
    }

    // ---- Days

    @Sentence(in = "Days", says = "When a day passes, the court gives the name that waits with the highest honour, "
            + "of several the lowest number,")
    static void daysTheHighestHonourAndLowestNumber() {
        PunCourts x = Check.court("ba0ca9da3fa9la9");
        x.withdraw(4);
        int[] due = {1, 3, 2, 0};
        for (int day = 0; day < due.length; day++) {
            due("day " + day, x.pass(1), 1);
            due("name on day " + day, x.corner(day, 0), due[day]);
        }
        due("none waits", x.pass(1), 0);
    }

    @Sentence(in = "Days", says = "the court gives the name that waits with the highest honour")
    static void daysOnlyOneThatWaits() {
        PunCourts x = Check.court("ba9ca1");
        x.give(0, 5);
        due("one is given", x.pass(1), 1);
        due("ba is borne and is not given", x.name(0, 6), 1);
        due("ca", x.corner(0, 0), 1);
    }

    @Sentence(in = "Days", says = "to the lowest corner for which it is not refused;")
    static void daysTheLowestCorner() {
        PunCourts x = Check.court("ba9pa8");
        x.give(0, 2);
        x.pass(1);
        due("corners 0 to 5 are refused", x.corner(6, 0), 1);
        PunCourts y = Check.court("ba1ca1da9");
        y.give(0, 0);
        y.give(1, 1);
        y.pass(1);
        due("0 and 1 rest", y.corner(2, 0), 2);
        PunCourts z = Check.court("ba1ca1da9");
        z.give(0, 0);
        z.set(PunCourts.RESTS, 0);
        z.pass(1);
        due("in the place of another", z.corner(0, 0), 2);
        due("which waits again", z.name(0, 1), 0);
        PunCourts last = full();
        last.withdraw(11);
        due("the last corner", last.pass(1), 1);
        due("12 goes there", last.corner(11, 0), 12);
    }

    /** Twelve corners bear names of a higher honour than that of name 12, which waits. */
    private static PunCourts full() {
        PunCourts x = Check.court(TermsSentences.TWENTY.substring(0, 39));
        x.honour(12, 8);
        for (int c = 0; c < 12; c++) {
            x.give(c, c);
        }
        return x;
    }

    @Sentence(in = "Days", says = "if there is none, the next name is looked at, and so on;")
    static void daysTheNextName() {
        PunCourts x = Check.court("ba9pa8bo8ca1");
        x.set(PunCourts.NEAR, 11);
        x.give(0, 0);
        due("two are refused everywhere", x.pass(1), 1);
        due("the third is given", x.corner(1, 0), 3);
        due("pa waits", x.name(1, 3), 0);
        due("bo waits", x.name(2, 3), 1);
        due("none is left to be given", x.pass(9), 0);
    }

    @Sentence(in = "Days", says = "if there is none, the next name is looked at, and so on;")
    static void daysNoNameAtAll() {
        due("no applications", new PunCourts().pass(99), 0);
        PunCourts x = full();
        due("refused at every corner", x.pass(99), 0);
        due("it waits", x.name(12, 1), 0);
        PunCourts y = Check.court("ba3");
        y.withdraw(0);
        due("all are withdrawn", y.pass(99), 0);
    }

    @Sentence(in = "Days", says = "at most one name is given in a day.")
    static void daysOneNameADay() {
        PunCourts x = Check.court(TermsSentences.TWENTY);
        for (int day = 1; day <= 12; day++) {
            due("day " + day, x.pass(1), 1);
            due("given so far", x.count(10), day);
        }
        PunCourts y = Check.court(TermsSentences.TWENTY);
        due("twelve days at once", y.pass(12), 12);
    }

    @Sentence(in = "Days", says = "Then up to POSTS posts are set up, one at a time,")
    static void daysUpToPosts() {
        PunCourts x = Check.court("ba3");
        x.give(0, 5);
        x.set(PunCourts.POSTS, 3);
        x.pass(1);
        due("3 of 4", x.count(9), 3);
        x.pass(1);
        due("only one was left", x.count(9), 4);
        due("none is owed", x.count(8), 0);
        x.pass(9);
        due("none is set up", x.count(9), 4);
        for (int c = 0; c < 12; c++) {
            Check.holds("corner " + c + " owes nothing", x.corner(c, 1) == 0);
        }
    }

    @Sentence(in = "Days", says = "Then up to POSTS posts are set up, one at a time,")
    static void daysPostsAfterTheName() {
        PunCourts x = Check.court("ba3");
        due("given and posted on one day", x.pass(1), 1);
        due("set up", x.count(9), 2);
        due("left", x.count(8), 1);
    }

    @Sentence(in = "Days", says = "each at the corner that owes the most, of several the lowest.")
    static void daysTheCornerThatOwesTheMost() {
        PunCourts x = Check.court("ba3");
        x.set(PunCourts.POSTS, 1);
        x.give(0, 10);
        x.give(0, 5);
        int[] corners = {5, 10, 4, 5, 6, 9, 10, 11};
        for (int day = 0; day < corners.length; day++) {
            int before = x.corner(corners[day], 2);
            x.pass(1);
            due("day " + day + " at " + corners[day], x.corner(corners[day], 2), before + 1);
        }
        due("none is owed", x.count(8), 0);
    }

    @Sentence(in = "Days", says = "each at the corner that owes the most, of several the lowest.")
    static void daysTheFirstAndTheLastCorner() {
        PunCourts x = Check.court("ba3");
        x.set(PunCourts.POSTS, 1);
        x.give(0, 11);
        x.give(0, 0);
        x.pass(1);
        due("0 before 11", x.corner(0, 2), 1);
        x.pass(1);
        due("then 11", x.corner(11, 2), 1);
        x.strip(11);
        x.pass(1);
        due("11 owes the most", x.corner(11, 2), 2);
    }

    @Sentence(in = "Days", says = "Then the count of days becomes 1 more.")
    static void daysTheCountOfDays() {
        PunCourts x = Check.court("ba3ca3");
        x.pass(2);
        due("given on day 0", x.corner(0, 3), 0);
        due("given on day 1", x.corner(1, 3), 1);
        due("days", x.count(4), 2);
        due("also days without a name", x.pass(3), 0);
        due("days", x.count(4), 5);
    }

    // ---- Maps

    @Sentence(in = "Maps", says = "A map that is issued shows the names of all corners as they are.")
    static void mapsShowAllCorners() {
        PunCourts x = Check.court("ba3ca3");
        x.give(0, 0);
        x.give(1, 11);
        x.issue();
        for (int c = 0; c < 12; c++) {
            due("shown at " + c, x.corner(c, 5), c == 0 ? 0 : c == 11 ? 1 : NONE);
        }
        due("right everywhere", x.count(11), 0);
    }

    @Sentence(in = "Maps", says = "There is one map at most, the latest one;")
    static void mapsTheLatest() {
        PunCourts x = Check.court("ba3");
        due("none at first", x.count(11), NONE);
        x.give(0, 0);
        due("first", x.issue(), NONE);
        x.strip(0);
        due("second", x.issue(), 1);
        due("the second shows", x.corner(0, 5), NONE);
        x.give(0, 0);
        due("wrong by the second", x.count(11), 1);
    }

    @Sentence(in = "Maps", says = "it is wrong at each corner that bears another name now,")
    static void mapsWrongByAnotherName() {
        PunCourts x = Check.court("ba3ca3");
        x.set(PunCourts.RESTS, 0);
        x.give(0, 0);
        x.give(0, 11);
        x.issue();
        x.give(1, 0);
        due("another at 0", x.count(11), 1);
        x.give(1, 11);
        due("and at 11", x.count(11), 2);
        x.give(0, 0);
        due("as it was at 0", x.count(11), 1);
    }

    @Sentence(in = "Maps", says = "or none,")
    static void mapsWrongByNoName() {
        PunCourts x = Check.court("ba3");
        x.give(0, 0);
        x.give(0, 11);
        x.issue();
        x.strip(0);
        due("none at 0", x.count(11), 1);
        x.withdraw(0);
        due("none at 11", x.count(11), 2);
        due("it is as it was issued", x.corner(11, 5), 0);
    }

    @Sentence(in = "Maps", says = "or one where the map shows none.")
    static void mapsWrongByANewName() {
        PunCourts x = Check.court("ba3");
        x.issue();
        x.give(0, 0);
        due("name 0 where it shows none", x.count(11), 1);
        x.set(PunCourts.BEARS, 6);
        due("by a day", x.strip(0), 0);
        x.pass(1);
        due("at 0 again", x.count(11), 1);
        x.strip(0);
        due("none as it shows", x.count(11), 0);
        due("refused", x.give(0, 12), NO_SUCH);
        due("not borne", x.strip(0), NOT_POSSIBLE);
    }
}
