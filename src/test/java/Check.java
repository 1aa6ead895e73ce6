/** What the tests share: counting wrong answers, and typing texts into a pad. */
final class Check {
    private static int wrong = 0;
    private static int checked = 0;

    private Check() {
    }

    static void due(String call, long got, long want) {
        checked++;
        if (got != want) {
            wrong++;
            System.out.println(call + " answered " + got + ", due is " + want);
        }
    }

    static void holds(String what, boolean so) {
        due(what, so ? 1 : 0, 1);
    }

    /** The number that put takes for a text of 1 to 8 characters. */
    static long code(String text) {
        long code = 0;
        for (char c : text.toCharArray()) {
            code = code << 8 | c;
        }
        return code;
    }

    static void type(PunCourts court, String text) {
        for (int i = 0; i < text.length(); i += 8) {
            String part = text.substring(i, Math.min(i + 8, text.length()));
            due("put " + part + " of " + text, court.put(code(part)), i + part.length());
        }
    }

    /** A new court with names that were applied for. */
    static PunCourts court(String applications) {
        PunCourts court = new PunCourts();
        read(court, applications);
        return court;
    }

    static void read(PunCourts court, String applications) {
        type(court, applications);
        holds("read of " + applications, court.read() > 0);
    }

    static void end() {
        System.out.println(checked + " answers looked at, " + wrong + " wrong");
        System.exit(wrong == 0 ? 0 : 1);
    }
}
