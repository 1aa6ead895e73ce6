import java.util.ArrayDeque;
import java.util.ArrayList;
import java.util.Deque;
import java.util.List;

/** The document written down a second time, with texts and lists instead of rows, for runs of chance calls. */
final class Model {
    private static final int NO_SUCH = -1, BAD_VALUE = -2, BAD_TEXT = -3, TOO_MANY = -4, NOT_POSSIBLE = -5, NONE = -6;

    private static final class Name {
        final String letters;
        final String sound;
        int honour;
        boolean gone;
        int given;

        Name(String letters, String sound, int honour) {
            this.letters = letters;
            this.sound = sound;
            this.honour = honour;
        }
    }

    private static final class Corner {
        Name name;
        Name onMap;
        int owes;
        int stands;
        int since;
        int times;
    }

    private static final class State {
        int near = 3, bears = 2, posts = 2, rests = 10, day = 0;
        boolean map = false;
        List<Name> names = new ArrayList<>();
        List<Corner> corners = new ArrayList<>();

        State twin() {
            State t = new State();
            t.near = near;
            t.bears = bears;
            t.posts = posts;
            t.rests = rests;
            t.day = day;
            t.map = map;
            for (Name n : names) {
                Name m = new Name(n.letters, n.sound, n.honour);
                m.gone = n.gone;
                m.given = n.given;
                t.names.add(m);
            }
            for (Corner c : corners) {
                Corner d = new Corner();
                d.name = c.name == null ? null : t.names.get(names.indexOf(c.name));
                d.onMap = c.onMap == null ? null : t.names.get(names.indexOf(c.onMap));
                d.owes = c.owes;
                d.stands = c.stands;
                d.since = c.since;
                d.times = c.times;
                t.corners.add(d);
            }
            return t;
        }

        int owed() {
            return corners.stream().mapToInt(c -> c.owes).sum();
        }

        int standing() {
            return corners.stream().mapToInt(c -> c.stands).sum();
        }

        long bearersOf(Name n) {
            return corners.stream().filter(c -> c.name == n).count();
        }

        boolean waiting(Name n) {
            return !n.gone && bearersOf(n) == 0;
        }

        List<Name> queue() {
            List<Name> q = new ArrayList<>();
            for (Name n : names) {
                if (waiting(n)) {
                    q.add(n);
                }
            }
            q.sort((a, b) -> b.honour - a.honour); // the sort is stable: equal honours stay by number
            return q;
        }

        int refused(Name n, int at) {
            Corner here = corners.get(at);
            if (n.gone) {
                return 1;
            }
            if (here.name == n) {
                return 2;
            }
            if (bearersOf(n) >= bears) {
                return 3;
            }
            for (int i = 0; i < 12; i++) {
                Name there = corners.get(i).name;
                if (i != at && Math.abs(i - at) <= near && there != null && there != n
                        && there.sound.equals(n.sound)) {
                    return 4;
                }
            }
            if (here.name != null && here.name.honour > n.honour) {
                return 5;
            }
            return here.name != null && day - here.since < rests ? 6 : 0;
        }

        void give(Name n, int at) {
            Corner here = corners.get(at);
            here.name = n;
            here.since = day;
            here.times++;
            here.owes += 2;
            n.given++;
            for (int i = 0; i < 12; i++) {
                if (Math.abs(i - at) == 1) {
                    corners.get(i).owes += 1;
                }
            }
        }

        int best(Name n) {
            for (int i = 0; i < 12; i++) {
                if (refused(n, i) == 0) {
                    return i;
                }
            }
            return NONE;
        }

        int day() {
            int given = 0;
            for (Name n : queue()) {
                int at = best(n);
                if (at >= 0) {
                    give(n, at);
                    given = 1;
                    break;
                }
            }
            for (int p = 0; p < posts && owed() > 0; p++) {
                Corner most = corners.get(0);
                for (Corner c : corners) {
                    most = c.owes > most.owes ? c : most;
                }
                most.owes--;
                most.stands++;
            }
            day++;
            return given;
        }

        int wrong() {
            return map ? (int) corners.stream().filter(c -> c.name != c.onMap).count() : NONE;
        }
    }

    /** The sound as the document makes it: by three rewritings of the whole word. */
    static String sound(String letters) {
        String signs = letters.replaceAll("[hy]", "").replaceAll("[bp]", "1").replaceAll("[cgjkqsxz]", "2")
                .replaceAll("[dt]", "3").replaceAll("[fvw]", "4").replaceAll("[lr]", "5").replaceAll("[mn]", "6")
                .replaceAll("[aeiou]", "7");
        String single = signs.replaceAll("(.)\\1+", "$1");
        return single.isEmpty() ? "" : single.charAt(0) + single.substring(1).replace("7", "");
    }

    private State s = new State();
    private final Deque<State> past = new ArrayDeque<>();
    private final State[] slots = new State[2];
    private String pad = "";

    Model() {
        for (int i = 0; i < 12; i++) {
            s.corners.add(new Corner());
        }
    }

    private void record() {
        past.addLast(s.twin());
        if (past.size() > 6) {
            past.removeFirst();
        }
    }

    private boolean noName(int n) {
        return n < 0 || n >= s.names.size();
    }

    private boolean noCorner(int c) {
        return c < 0 || c > 11;
    }

    int set(int setting, int value) {
        if (setting < 0 || setting > 3) {
            return BAD_VALUE;
        }
        int least = setting == 1 ? 1 : 0;
        int most = setting == 0 ? 11 : setting == 1 ? 6 : setting == 2 ? 9 : 60;
        if (value < least || value > most) {
            return BAD_VALUE;
        }
        record();
        int old = count(setting);
        if (setting == 0) {
            s.near = value;
        } else if (setting == 1) {
            s.bears = value;
        } else if (setting == 2) {
            s.posts = value;
        } else {
            s.rests = value;
        }
        return old;
    }

    int read() {
        if (fault() != NONE) {
            return BAD_TEXT;
        }
        String[] names = pad.split("(?<=[0-9])");
        if (s.names.size() + names.length > 20) {
            return TOO_MANY;
        }
        record();
        for (String n : names) {
            s.names.add(named(n.substring(0, n.length() - 1), n.charAt(n.length() - 1) - '0'));
        }
        pad = "";
        return s.names.size();
    }

    private static Name named(String letters, int honour) {
        return new Name(letters, sound(letters), honour);
    }

    int honour(int name, int honour) {
        if (noName(name)) {
            return NO_SUCH;
        }
        if (honour < 0 || honour > 9) {
            return BAD_VALUE;
        }
        record();
        int old = s.names.get(name).honour;
        s.names.get(name).honour = honour;
        return old;
    }

    int withdraw(int name) {
        if (noName(name)) {
            return NO_SUCH;
        }
        if (s.names.get(name).gone) {
            return NOT_POSSIBLE;
        }
        record();
        Name n = s.names.get(name);
        int bore = (int) s.bearersOf(n);
        n.gone = true;
        s.corners.forEach(c -> c.name = c.name == n ? null : c.name);
        return bore;
    }

    int give(int name, int corner) {
        if (noName(name) || noCorner(corner)) {
            return NO_SUCH;
        }
        if (why(name, corner) != 0) {
            return NOT_POSSIBLE;
        }
        record();
        s.give(s.names.get(name), corner);
        return s.corners.get(corner).owes;
    }

    int strip(int corner) {
        if (noCorner(corner)) {
            return NO_SUCH;
        }
        Corner c = s.corners.get(corner);
        if (c.name == null) {
            return NOT_POSSIBLE;
        }
        record();
        int name = s.names.indexOf(c.name);
        c.name = null;
        c.owes++;
        return name;
    }

    int issue() {
        record();
        int wrong = s.wrong();
        s.map = true;
        s.corners.forEach(c -> c.onMap = c.name);
        return wrong;
    }

    int pass(int days) {
        if (days < 1 || days > 99) {
            return BAD_VALUE;
        }
        if (s.day + days > 9999) {
            return TOO_MANY;
        }
        record();
        int given = 0;
        for (int i = 0; i < days; i++) {
            given += s.day();
        }
        return given;
    }

    int name(int name, int what) {
        if (noName(name)) {
            return NO_SUCH;
        }
        Name n = s.names.get(name);
        switch (what) {
            case 0: return n.honour;
            case 1: return n.gone ? 2 : s.waiting(n) ? 0 : 1;
            case 2:
                int set = 0;
                for (int i = 11; i >= 0; i--) {
                    set = set * 2 + (s.corners.get(i).name == n ? 1 : 0);
                }
                return set;
            case 3: return s.waiting(n) ? s.queue().indexOf(n) : NONE;
            case 4: return n.sound.isEmpty() ? 0 : Integer.parseInt(n.sound);
            case 5: return n.letters.length();
            case 6: return n.given;
            default: return BAD_VALUE;
        }
    }

    int alike(int one, int other, int way) {
        if (noName(one) || noName(other)) {
            return NO_SUCH;
        }
        if (way != 0 && way != 1) {
            return BAD_VALUE;
        }
        return s.names.get(one).sound.equals(s.names.get(other).sound) ? 1 : 0;
    }

    int corner(int corner, int what) {
        if (noCorner(corner)) {
            return NO_SUCH;
        }
        Corner c = s.corners.get(corner);
        switch (what) {
            case 0: return c.name == null ? NONE : s.names.indexOf(c.name);
            case 1: return c.owes;
            case 2: return c.stands;
            case 3: return c.name == null ? NONE : c.since;
            case 4: return c.times;
            case 5: return !s.map || c.onMap == null ? NONE : s.names.indexOf(c.onMap);
            default: return BAD_VALUE;
        }
    }

    int why(int name, int corner) {
        return noName(name) || noCorner(corner) ? NO_SUCH : s.refused(s.names.get(name), corner);
    }

    int count(int what) {
        switch (what) {
            case 0: return s.near;
            case 1: return s.bears;
            case 2: return s.posts;
            case 3: return s.rests;
            case 4: return s.day;
            case 5: return s.names.size();
            case 6: return s.queue().size();
            case 7: return (int) s.corners.stream().filter(c -> c.name != null).count();
            case 8: return s.owed();
            case 9: return s.standing();
            case 10: return s.corners.stream().mapToInt(c -> c.times).sum();
            case 11: return s.wrong();
            case 12: return pairs();
            case 13: return pad.length();
            case 14: return past.size();
            default: return BAD_VALUE;
        }
    }

    private int pairs() {
        int both = 0;
        for (Corner a : s.corners) {
            for (Corner b : s.corners) {
                if (a.name != null && b.name != null && a.name != b.name
                        && a.name.sound.equals(b.name.sound)) {
                    both++;
                }
            }
        }
        return both / 2;
    }

    int bestCorner(int name) {
        return noName(name) ? NO_SUCH : s.best(s.names.get(name));
    }

    int untilBorne(int name) {
        if (noName(name)) {
            return NO_SUCH;
        }
        State t = s.twin();
        for (int days = 0; days <= 300; days++) {
            if (t.bearersOf(t.names.get(name)) > 0) {
                return days;
            }
            t.day();
        }
        return NONE;
    }

    int untilPosted() {
        State t = s.twin();
        for (int days = 0; days <= 300; days++) {
            if (t.owed() == 0) {
                return days;
            }
            t.day();
        }
        return NONE;
    }

    int ifPassed(int days, int what) {
        if (days < 1 || days > 300 || what < 0 || what > 2) {
            return BAD_VALUE;
        }
        State t = s.twin();
        int given = 0;
        for (int i = 0; i < days; i++) {
            given += t.day();
        }
        return what == 0 ? given : what == 1 ? t.standing() - s.standing() : t.owed();
    }

    int put(long characters) {
        String text = "";
        for (long rest = characters; rest != 0; rest >>>= 8) {
            char c = (char) (rest & 255);
            if (c < 33 || c > 126) {
                return BAD_VALUE;
            }
            text = c + text;
        }
        if (text.isEmpty()) {
            return BAD_VALUE;
        }
        if (pad.length() + text.length() > 60) {
            return TOO_MANY;
        }
        pad += text;
        return pad.length();
    }

    int wipe() {
        int length = pad.length();
        pad = "";
        return length;
    }

    /** The longest beginning of the pad that some right text begins with ends at the fault. */
    int fault() {
        if (pad.matches("([a-z]{2,9}[0-9])+")) {
            return NONE;
        }
        int fits = pad.length();
        while (!pad.substring(0, fits).matches("([a-z]{2,9}[0-9])*[a-z]{0,9}")) {
            fits--;
        }
        return fits;
    }

    int undo() {
        if (past.isEmpty()) {
            return NOT_POSSIBLE;
        }
        s = past.removeLast();
        return past.size();
    }

    int save(int slot) {
        if (slot < 0 || slot > 1) {
            return BAD_VALUE;
        }
        slots[slot] = s.twin();
        return s.day;
    }

    int restore(int slot) {
        if (slot < 0 || slot > 1) {
            return BAD_VALUE;
        }
        if (slots[slot] == null) {
            return NOT_POSSIBLE;
        }
        record();
        s = slots[slot].twin();
        return s.day;
    }
}
