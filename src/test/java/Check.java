/** What the tests share: counting wrong answers, typing texts into a pad, and looking at all of a court. */
final class Check {
    private static int wrong = 0;
    private static int checked = 0;
    private static String about = "";

    private Check() {
    }

    /** Says what the next answers are about; it is told with each of them that is wrong. */
    static void about(String what) {
        about = what;
    }

    static int checked() {
        return checked;
    }

    static void due(String call, long got, long want) {
        checked++;
        if (got != want) {
            wrong++;
            System.out.println((about.isEmpty() ? "" : about + ": ") + call + " answered " + got + ", due is " + want);
        }
    }

    static void holds(String what, boolean so) {
        due(what, so ? 1 : 0, 1);
    }

    static void same(String what, String got, String want) {
        holds(what + ": " + got + " is " + want, got.equals(want));
    }

    /** The number that put takes for a text of 1 to 8 characters. */
    static long code(String text) {
        long code = 0;
        for (char c : text.toCharArray()) {
            code = code << 8 | c;
        }
        return code;
    }

    static void type(PunCourts court, String text) {
        for (int i = 0; i < text.length(); i += 8) {
            String part = text.substring(i, Math.min(i + 8, text.length()));
            due("put " + part + " of " + text, court.put(code(part)), i + part.length());
        }
    }

    /** A new court with names that were applied for. */
    static PunCourts court(String applications) {
        PunCourts court = new PunCourts();
        read(court, applications);
        return court;
    }

    static void read(PunCourts court, String applications) {
        type(court, applications);
        holds("read of " + applications, court.read() > 0);
    }

    /** All that can be asked, but for the pad and the history: 85 calls, and 8 more for each name. */
    static String state(PunCourts x) {
        StringBuilder all = new StringBuilder();
        for (int what = 0; what < 13; what++) {
            all.append(x.count(what)).append(' ');
        }
        for (int name = 0; name < x.count(5); name++) {
            for (int what = 0; what < 7; what++) {
                all.append(x.name(name, what)).append(' ');
            }
        }
        for (int corner = 0; corner < 12; corner++) {
            for (int what = 0; what < 6; what++) {
                all.append(x.corner(corner, what)).append(' ');
            }
        }
        return all.toString();
    }

    /** The pad as far as it can be asked, and the history; it undoes what can be undone, and restores both slots. */
    static String rest(PunCourts x) {
        StringBuilder all = new StringBuilder();
        all.append(x.count(13)).append(' ').append(x.fault()).append(' ').append(x.count(14)).append(" / ");
        while (x.undo() >= 0) {
            all.append(glance(x));
        }
        for (int slot = 0; slot < 2; slot++) {
            all.append(x.restore(slot)).append(": ").append(glance(x));
        }
        return all.append(x.wipe()).toString();
    }

    /** So little of the state that some of them can be looked at within the 512 calls of a court. */
    private static String glance(PunCourts x) {
        StringBuilder some = new StringBuilder();
        for (int what = 0; what < 13; what++) {
            some.append(x.count(what)).append(' ');
        }
        return some.append("/ ").toString();
    }

    static void end() {
        System.out.println(checked + " answers looked at, " + wrong + " wrong");
        System.exit(wrong == 0 ? 0 : 1);
    }
}
