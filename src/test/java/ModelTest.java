import java.util.Random;

/** Runs of chance calls, always the same ones, on the class and on the model; every answer has to be the same. */
public final class ModelTest {
    private static final int RUNS = 400;
    private static final int CALLS = 512;
    /** A text of up to eleven characters is put, looked at, read and wiped. */
    private static final int MOST_CALLS_OF_A_STEP = 5;
    private static final int[] ODD = {-1, -2, 12, 20, 61, 300, 301, 9999, Integer.MAX_VALUE, Integer.MIN_VALUE};

    private final PunCourts court = new PunCourts();
    private final Model model = new Model();
    private final Random chance;
    /** How often time passes and whether texts use few letters differ from run to run, so that runs differ in kind. */
    private final int kind;
    private String call;
    private long got;
    private long want;

    private ModelTest(int run) {
        chance = new Random(run);
        kind = run % 5;
    }

    public static void main(String[] args) {
        for (int run = 0; run < RUNS; run++) {
            new ModelTest(run).play(run);
        }
        Check.end();
    }

    private void play(int run) {
        int calls = 0;
        while (calls + MOST_CALLS_OF_A_STEP <= CALLS) {
            int made = step();
            calls += made;
            if (got != want) {
                Check.due("run " + run + ", call " + calls + ": " + call, got, want);
                return;
            }
        }
        Check.due("run " + run, 0, 0);
    }

    private int upTo(int bound) {
        return chance.nextInt(bound);
    }

    private int maybeOdd(int plain) {
        return upTo(40) == 0 ? ODD[upTo(ODD.length)] : plain;
    }

    private int someName() {
        int names = model.count(5);
        return maybeOdd(upTo(names + (upTo(20) == 0 ? 1 : 0) + (names == 0 ? 1 : 0)));
    }

    private int someCorner() {
        return maybeOdd(upTo(12));
    }

    private String someText() {
        String letters = kind < 2 ? "bpaeh" : kind < 4 ? "abcdefghijklmnopqrstuvwxyz" : "rskaoeyh";
        StringBuilder text = new StringBuilder();
        int length = 2 + (upTo(4) == 0 ? upTo(9) : upTo(3));
        for (int i = 0; i < length; i++) {
            text.append(letters.charAt(upTo(letters.length())));
        }
        text.append((char) ('0' + upTo(10)));
        if (upTo(30) == 0) {
            text.setCharAt(upTo(text.length()), (char) (33 + upTo(94)));
        }
        return text.toString();
    }

    private int step() {
        int dice = upTo(100);
        if (dice < 8) {
            return texts();
        }
        if (dice < 60) {
            changes(dice - 8);
        } else if (dice < 82) {
            questions(dice - 60);
        } else if (dice < 91) {
            whatIf();
        } else {
            states();
        }
        return 1;
    }

    private void note(String what, long theirs, long ours) {
        call = what;
        got = theirs;
        want = ours;
    }

    private int texts() {
        int dice = upTo(20);
        if (dice == 0) {
            note("wipe()", court.wipe(), model.wipe());
            return 1;
        }
        if (dice == 1) {
            note("fault()", court.fault(), model.fault());
            return 1;
        }
        if (dice == 2) {
            long code = upTo(2) == 0 ? chance.nextLong() : chance.nextLong() >>> (8 * upTo(8));
            note("put(" + code + ")", court.put(code), model.put(code));
            return 1;
        }
        String text = someText();
        int calls = 0;
        for (int i = 0; i < text.length(); i += 8) {
            long code = Check.code(text.substring(i, Math.min(i + 8, text.length())));
            note("put(" + code + ")", court.put(code), model.put(code));
            calls++;
            if (got != want) {
                return calls;
            }
        }
        note("fault()", court.fault(), model.fault());
        if (got != want || upTo(3) == 0) {
            return calls + 1;
        }
        note("read()", court.read(), model.read());
        if (got == PunCourts.BAD_TEXT || got == PunCourts.TOO_MANY) {
            court.wipe();
            model.wipe();
            calls++;
        }
        return calls + 2;
    }

    private void changes(int dice) {
        if (dice < 5) {
            int setting = maybeOdd(upTo(4));
            int[] bounds = {12, 7, 10, 61};
            int bound = setting >= 0 && setting < 4 ? bounds[setting] : 5;
            int value = maybeOdd(setting == 3 && upTo(3) > 0 ? upTo(4) : upTo(bound));
            note("set(" + setting + ", " + value + ")", court.set(setting, value), model.set(setting, value));
        } else if (dice < 9) {
            int name = someName();
            int honour = maybeOdd(upTo(10));
            note("honour(" + name + ", " + honour + ")", court.honour(name, honour), model.honour(name, honour));
        } else if (dice < 11) {
            int name = upTo(3) == 0 ? someName() : NO_NAME;
            note("withdraw(" + name + ")", court.withdraw(name), model.withdraw(name));
        } else if (dice < 32) {
            int name = someName();
            int corner = someCorner();
            note("give(" + name + ", " + corner + ")", court.give(name, corner), model.give(name, corner));
        } else if (dice < 39) {
            int corner = someCorner();
            note("strip(" + corner + ")", court.strip(corner), model.strip(corner));
        } else if (dice < 42) {
            note("issue()", court.issue(), model.issue());
        } else {
            int days = maybeOdd(kind == 3 ? 60 + upTo(41) : upTo(4) == 0 ? upTo(101) : upTo(4));
            note("pass(" + days + ")", court.pass(days), model.pass(days));
        }
    }

    private static final int NO_NAME = 21;

    private void questions(int dice) {
        if (dice < 6) {
            int name = someName();
            int what = maybeOdd(upTo(8));
            note("name(" + name + ", " + what + ")", court.name(name, what), model.name(name, what));
        } else if (dice < 9) {
            int one = someName();
            int other = someName();
            int way = maybeOdd(upTo(2));
            note("alike(" + one + ", " + other + ", " + way + ")",
                    court.alike(one, other, way), model.alike(one, other, way));
        } else if (dice < 14) {
            int corner = someCorner();
            int what = maybeOdd(upTo(7));
            note("corner(" + corner + ", " + what + ")", court.corner(corner, what), model.corner(corner, what));
        } else if (dice < 18) {
            int name = someName();
            int corner = someCorner();
            note("why(" + name + ", " + corner + ")", court.why(name, corner), model.why(name, corner));
        } else {
            int what = maybeOdd(upTo(16));
            note("count(" + what + ")", court.count(what), model.count(what));
        }
    }

    private void whatIf() {
        int dice = upTo(10);
        if (dice < 4) {
            int name = someName();
            note("bestCorner(" + name + ")", court.bestCorner(name), model.bestCorner(name));
        } else if (dice < 7) {
            int name = someName();
            note("untilBorne(" + name + ")", court.untilBorne(name), model.untilBorne(name));
        } else if (dice < 8) {
            note("untilPosted()", court.untilPosted(), model.untilPosted());
        } else {
            int days = maybeOdd(upTo(3) == 0 ? upTo(302) : upTo(12));
            int what = maybeOdd(upTo(3));
            note("ifPassed(" + days + ", " + what + ")", court.ifPassed(days, what), model.ifPassed(days, what));
        }
    }

    private void states() {
        int dice = upTo(10);
        int slot = maybeOdd(upTo(2));
        if (dice < 5) {
            note("undo()", court.undo(), model.undo());
        } else if (dice < 8) {
            note("save(" + slot + ")", court.save(slot), model.save(slot));
        } else {
            note("restore(" + slot + ")", court.restore(slot), model.restore(slot));
        }
    }
}
