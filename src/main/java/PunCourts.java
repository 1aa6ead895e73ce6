/** A licensing court for street names; ../shared/DOC.md says what it promises. */
public final class PunCourts {
    public static final int NO_SUCH = -1, BAD_VALUE = -2, BAD_TEXT = -3, TOO_MANY = -4, NOT_POSSIBLE = -5, NONE = -6;
    public static final int NEAR = 0, BEARS = 1, POSTS = 2, RESTS = 3;

    private static final int MOST_NAMES = 20;
    private static final int MOST_LETTERS = 9;
    private static final int FEWEST_LETTERS = 2;
    private static final int HIGHEST_HONOUR = 9;
    private static final int CORNERS = 12;
    private static final int SETTINGS = 4;
    private static final int MOST_DAYS = 9999;
    private static final int MOST_DAYS_AT_ONCE = 99;
    private static final int FORESIGHT = 300;
    private static final int PAD_LENGTH = 60;
    private static final int PUT_LENGTH = 8;
    private static final int HISTORY = 6;
    private static final int SLOTS = 2;

    /** The signs of the letters a to z; 0 is no sign. */
    private static final int[] SIGNS = {
        7, 1, 2, 3, 7, 4, 2, 0, 7, 2, 2, 5, 6, 6, 7, 1, 2, 5, 2, 3, 7, 4, 4, 2, 0, 2};
    private static final int VOWEL = 7;

    private static final int[] LOWEST = {0, 1, 0, 0};
    private static final int[] HIGHEST = {11, 6, 9, 60};

    private final Court now;
    /** Where the days of the calls that ask "what if" are played, so that no such call makes a court. */
    private final Court trial;
    private final Court[] past;
    private int pastLength;
    private final Court[] slots;
    private final boolean[] slotUsed;
    private final char[] pad;
    private int padLength;

    public PunCourts() {
        now = new Court();
        trial = new Court();
        past = new Court[HISTORY];
        for (int i = 0; i < HISTORY; i++) {
            past[i] = new Court();
        }
        slots = new Court[SLOTS];
        for (int i = 0; i < SLOTS; i++) {
            slots[i] = new Court();
        }
        slotUsed = new boolean[SLOTS];
        pad = new char[PAD_LENGTH];
    }

    // ---- changes

    public int set(int setting, int value) {
        if (setting < 0 || setting >= SETTINGS) {
            return BAD_VALUE;
        }
        if (value < LOWEST[setting] || value > HIGHEST[setting]) {
            return BAD_VALUE;
        }
        record();
        int previous = now.settings[setting];
        now.settings[setting] = value;
        return previous;
    }

    public int read() {
        if (padFault() != NONE) {
            return BAD_TEXT;
        }
        if (now.names + padNames() > MOST_NAMES) {
            return TOO_MANY;
        }
        record();
        int start = 0;
        for (int i = 0; i < padLength; i++) {
            if (isDigit(pad[i])) {
                now.apply(pad, start, i - start, pad[i] - '0');
                start = i + 1;
            }
        }
        padLength = 0;
        return now.names;
    }

    public int honour(int name, int honour) {
        if (!now.hasName(name)) {
            return NO_SUCH;
        }
        if (honour < 0 || honour > HIGHEST_HONOUR) {
            return BAD_VALUE;
        }
        record();
        int previous = now.honours[name];
        now.honours[name] = honour;
        return previous;
    }

    public int withdraw(int name) {
        if (!now.hasName(name)) {
            return NO_SUCH;
        }
        if (now.withdrawn[name]) {
            return NOT_POSSIBLE;
        }
        record();
        return now.drop(name);
    }

    public int give(int name, int corner) {
        if (!now.hasName(name) || !isCorner(corner)) {
            return NO_SUCH;
        }
        if (now.refusal(name, corner) != 0) {
            return NOT_POSSIBLE;
        }
        record();
        now.place(name, corner);
        return now.owed[corner];
    }

    public int strip(int corner) {
        if (!isCorner(corner)) {
            return NO_SUCH;
        }
        int borne = now.borne[corner];
        if (borne == NONE) {
            return NOT_POSSIBLE;
        }
        record();
        now.bare(corner);
        now.owed[corner]++;
        return borne;
    }

    public int issue() {
        record();
        int wrong = now.wrongOnMap();
        now.drawMap();
        return wrong;
    }

    public int pass(int days) {
        if (days < 1 || days > MOST_DAYS_AT_ONCE) {
            return BAD_VALUE;
        }
        if (now.days + days > MOST_DAYS) {
            return TOO_MANY;
        }
        record();
        return now.live(days);
    }

    // ---- what there is; nothing changes

    public int name(int name, int what) {
        if (!now.hasName(name)) {
            return NO_SUCH;
        }
        switch (what) {
            case 0:
                return now.honours[name];
            case 1:
                return now.whereIs(name);
            case 2:
                return now.bearerSet(name);
            case 3:
                return now.placeInQueue(name);
            case 4:
                return now.sounds[name];
            case 5:
                return now.lengths[name];
            case 6:
                return now.nameGiven[name];
            default:
                return BAD_VALUE;
        }
    }

    public int alike(int one, int other, int way) {
        if (!now.hasName(one) || !now.hasName(other)) {
            return NO_SUCH;
        }
        switch (way) {
            case 0:
                return now.sounds[one] == now.sounds[other] ? 1 : 0;
            case 1:
                return now.alikeByLetters(one, other) ? 1 : 0;
            default:
                return BAD_VALUE;
        }
    }

    public int corner(int corner, int what) {
        if (!isCorner(corner)) {
            return NO_SUCH;
        }
        switch (what) {
            case 0:
                return now.borne[corner];
            case 1:
                return now.owed[corner];
            case 2:
                return now.posted[corner];
            case 3:
                return now.borne[corner] == NONE ? NONE : now.gotDay[corner];
            case 4:
                return now.cornerGiven[corner];
            case 5:
                return now.shown[corner];
            default:
                return BAD_VALUE;
        }
    }

    public int why(int name, int corner) {
        if (!now.hasName(name) || !isCorner(corner)) {
            return NO_SUCH;
        }
        return now.refusal(name, corner);
    }

    public int count(int what) {
        switch (what) {
            case NEAR:
            case BEARS:
            case POSTS:
            case RESTS:
                return now.settings[what];
            case 4:
                return now.days;
            case 5:
                return now.names;
            case 6:
                return now.waitingNames();
            case 7:
                return now.bearingCorners();
            case 8:
                return sum(now.owed);
            case 9:
                return sum(now.posted);
            case 10:
                return sum(now.nameGiven);
            case 11:
                return now.wrongOnMap();
            case 12:
                return now.punPairs();
            case 13:
                return padLength;
            case 14:
                return pastLength;
            default:
                return BAD_VALUE;
        }
    }

    // ---- what if; nothing changes

    public int bestCorner(int name) {
        if (!now.hasName(name)) {
            return NO_SUCH;
        }
        return now.lowestFree(name);
    }

    public int untilBorne(int name) {
        if (!now.hasName(name)) {
            return NO_SUCH;
        }
        if (now.bearers(name) > 0) {
            return 0;
        }
        copy(now, trial);
        for (int day = 1; day <= FORESIGHT; day++) {
            trial.live(1);
            if (trial.bearers(name) > 0) {
                return day;
            }
        }
        return NONE;
    }

    public int untilPosted() {
        if (sum(now.owed) == 0) {
            return 0;
        }
        copy(now, trial);
        for (int day = 1; day <= FORESIGHT; day++) {
            trial.live(1);
            if (sum(trial.owed) == 0) {
                return day;
            }
        }
        return NONE;
    }

    public int ifPassed(int days, int what) {
        if (days < 1 || days > FORESIGHT || what < 0 || what > 2) {
            return BAD_VALUE;
        }
        copy(now, trial);
        int given = trial.live(days);
        if (what == 0) {
            return given;
        }
        if (what == 1) {
            return sum(trial.posted) - sum(now.posted);
        }
        return sum(trial.owed);
    }

    // ---- texts

    public int put(long characters) {
        int length = charactersIn(characters);
        if (length == 0) {
            return BAD_VALUE;
        }
        if (padLength + length > PAD_LENGTH) {
            return TOO_MANY;
        }
        for (int i = length - 1; i >= 0; i--) {
            append((char) codeAt(characters, i));
        }
        return padLength;
    }

    public int wipe() {
        int length = padLength;
        padLength = 0;
        return length;
    }

    public int fault() {
        return padFault();
    }

    // ---- undo, saving

    public int undo() {
        if (pastLength <= 0 || pastLength > HISTORY) {
            return NOT_POSSIBLE;
        }
        pastLength--;
        copy(past[pastLength], now);
        return pastLength;
    }

    public int save(int slot) {
        if (!isSlot(slot)) {
            return BAD_VALUE;
        }
        copy(now, slots[slot]);
        slotUsed[slot] = true;
        return now.days;
    }

    public int restore(int slot) {
        if (!isSlot(slot)) {
            return BAD_VALUE;
        }
        if (!slotUsed[slot]) {
            return NOT_POSSIBLE;
        }
        record();
        copy(slots[slot], now);
        return now.days;
    }

    // ---- history

    /** Keeps the court of now behind the other states; the court of the oldest one is used again when all are full. */
    private void record() {
        if (pastLength >= HISTORY) {
            Court oldest = past[0];
            for (int i = 1; i < HISTORY; i++) {
                past[i - 1] = past[i];
            }
            past[HISTORY - 1] = oldest;
            pastLength = HISTORY - 1;
        }
        if (pastLength >= 0) {
            copy(now, past[pastLength]);
            pastLength++;
        }
    }

    private static void copy(Court from, Court to) {
        if (from == null || to == null) {
            return;
        }
        copyRow(from.settings, to.settings);
        to.days = from.days;
        to.names = from.names;
        System.arraycopy(from.letters, 0, to.letters, 0, Math.min(from.letters.length, to.letters.length));
        copyRow(from.lengths, to.lengths);
        copyRow(from.sounds, to.sounds);
        copyRow(from.honours, to.honours);
        for (int i = 0; i < from.withdrawn.length && i < to.withdrawn.length; i++) {
            to.withdrawn[i] = from.withdrawn[i];
        }
        copyRow(from.nameGiven, to.nameGiven);
        copyRow(from.borne, to.borne);
        copyRow(from.owed, to.owed);
        copyRow(from.posted, to.posted);
        copyRow(from.gotDay, to.gotDay);
        copyRow(from.cornerGiven, to.cornerGiven);
        to.mapIssued = from.mapIssued;
        copyRow(from.shown, to.shown);
    }

    private static void copyRow(int[] from, int[] to) {
        System.arraycopy(from, 0, to, 0, Math.min(from.length, to.length));
    }

    // ---- the pad

    private int padFault() {
        int letters = 0;
        for (int i = 0; i < padLength; i++) {
            if (isLetter(pad[i]) && letters < MOST_LETTERS) {
                letters++;
            } else if (isDigit(pad[i]) && letters >= FEWEST_LETTERS) {
                letters = 0;
            } else {
                return i;
            }
        }
        return padLength == 0 || letters > 0 ? padLength : NONE;
    }

    private int padNames() {
        int count = 0;
        for (int i = 0; i < padLength; i++) {
            if (isDigit(pad[i])) {
                count++;
            }
        }
        return count;
    }

    private void append(char c) {
        if (padLength >= 0 && padLength < PAD_LENGTH) {
            pad[padLength] = c;
            padLength++;
        }
    }

    /** How many characters the number gives; 0 if it gives none or is not well made. */
    private static int charactersIn(long characters) {
        int length = 0;
        while (length < PUT_LENGTH && codeAt(characters, length) != 0) {
            int code = codeAt(characters, length);
            if (code < 33 || code > 126) {
                return 0;
            }
            length++;
        }
        for (int i = length; i < PUT_LENGTH; i++) {
            if (codeAt(characters, i) != 0) {
                return 0;
            }
        }
        return length;
    }

    /** The code at a place that is counted from the last character. */
    private static int codeAt(long characters, int place) {
        return (int) ((characters >>> (8 * place)) & 255);
    }

    private static boolean isLetter(char c) {
        return c >= 'a' && c <= 'z';
    }

    private static boolean isDigit(char c) {
        return c >= '0' && c <= '9';
    }

    private static boolean isCorner(int corner) {
        return corner >= 0 && corner < CORNERS;
    }

    private static boolean isSlot(int slot) {
        return slot >= 0 && slot < SLOTS;
    }

    private static int sum(int[] row) {
        int sum = 0;
        for (int i = 0; i < row.length; i++) {
            sum += row[i];
        }
        return sum;
    }

    /** Everything that undo brings back and a slot keeps. */
    private static final class Court {
        final int[] settings = {3, 2, 2, 10};
        int days;

        int names;
        final char[] letters = new char[MOST_NAMES * MOST_LETTERS];
        final int[] lengths = new int[MOST_NAMES];
        final int[] sounds = new int[MOST_NAMES];
        final int[] honours = new int[MOST_NAMES];
        final boolean[] withdrawn = new boolean[MOST_NAMES];
        final int[] nameGiven = new int[MOST_NAMES];

        final int[] borne = new int[CORNERS];
        final int[] owed = new int[CORNERS];
        final int[] posted = new int[CORNERS];
        final int[] gotDay = new int[CORNERS];
        final int[] cornerGiven = new int[CORNERS];

        boolean mapIssued;
        /** NONE at each corner as long as there is no map. */
        final int[] shown = new int[CORNERS];

        Court() {
            for (int i = 0; i < CORNERS; i++) {
                borne[i] = NONE;
                shown[i] = NONE;
            }
        }

        // ---- names and sounds

        boolean hasName(int name) {
            return name >= 0 && name < names && name < MOST_NAMES;
        }

        /** Takes the letters from a text; all of the name is set anew, whatever stood at its place. */
        void apply(char[] text, int start, int length, int honour) {
            if (names < 0 || names >= MOST_NAMES || length < 0 || length > MOST_LETTERS) {
                return;
            }
            if (start < 0 || start + length > text.length) {
                return;
            }
            int name = names;
            System.arraycopy(text, start, letters, name * MOST_LETTERS, length);
            lengths[name] = length;
            honours[name] = honour;
            withdrawn[name] = false;
            nameGiven[name] = 0;
            sounds[name] = soundOf(name);
            names++;
        }

        private int soundOf(int name) {
            int sound = 0;
            int previous = 0;
            for (int i = 0; i < lengths[name]; i++) {
                int sign = signAt(name, i);
                if (sign != 0 && sign != previous) {
                    if (sign != VOWEL || previous == 0) {
                        sound = sound * 10 + sign;
                    }
                    previous = sign;
                }
            }
            return sound;
        }

        private int signAt(int name, int letter) {
            if (letter < 0 || letter >= MOST_LETTERS) {
                return 0;
            }
            int sign = letters[name * MOST_LETTERS + letter] - 'a';
            return sign >= 0 && sign < SIGNS.length ? SIGNS[sign] : 0;
        }

        boolean alikeByLetters(int one, int other) {
            int i = nextHeard(one, 0);
            int j = nextHeard(other, 0);
            for (int heard = 0; heard < MOST_LETTERS && i < lengths[one] && j < lengths[other]; heard++) {
                if (signAt(one, i) != signAt(other, j)) {
                    return false;
                }
                i = nextHeard(one, i + 1);
                j = nextHeard(other, j + 1);
            }
            return i >= lengths[one] && j >= lengths[other];
        }

        /** The first letter from a place on whose sign stays in the sound; the length of the name if there is none. */
        private int nextHeard(int name, int from) {
            int letter = from;
            while (letter < lengths[name] && !isHeard(name, letter)) {
                letter++;
            }
            return letter;
        }

        private boolean isHeard(int name, int letter) {
            int sign = signAt(name, letter);
            int previous = 0;
            for (int i = letter - 1; i >= 0 && previous == 0; i--) {
                previous = signAt(name, i);
            }
            return sign != 0 && sign != previous && (sign != VOWEL || previous == 0);
        }

        // ---- who bears what

        int bearers(int name) {
            int count = 0;
            for (int c = 0; c < CORNERS; c++) {
                if (borne[c] == name) {
                    count++;
                }
            }
            return count;
        }

        int bearerSet(int name) {
            int set = 0;
            for (int c = 0; c < CORNERS; c++) {
                if (borne[c] == name) {
                    set |= 1 << c;
                }
            }
            return set;
        }

        int whereIs(int name) {
            if (withdrawn[name]) {
                return 2;
            }
            return bearers(name) > 0 ? 1 : 0;
        }

        boolean waits(int name) {
            return whereIs(name) == 0;
        }

        int placeInQueue(int name) {
            if (!waits(name)) {
                return NONE;
            }
            int ahead = 0;
            for (int other = 0; other < names; other++) {
                boolean before = honours[other] > honours[name]
                        || honours[other] == honours[name] && other < name;
                if (before && waits(other)) {
                    ahead++;
                }
            }
            return ahead;
        }

        int waitingNames() {
            int count = 0;
            for (int name = 0; name < names; name++) {
                if (waits(name)) {
                    count++;
                }
            }
            return count;
        }

        int bearingCorners() {
            return CORNERS - bearers(NONE);
        }

        int punPairs() {
            int pairs = 0;
            for (int c = 0; c < CORNERS; c++) {
                for (int d = c + 1; d < CORNERS; d++) {
                    if (isPun(borne[c], borne[d])) {
                        pairs++;
                    }
                }
            }
            return pairs;
        }

        private boolean isPun(int one, int other) {
            return one != other && hasName(one) && hasName(other) && sounds[one] == sounds[other];
        }

        // ---- licences

        /** The reason, 1 to 6, why a name is refused for a corner, or 0. */
        int refusal(int name, int corner) {
            return reason(name, corner, bearers(name), nearPuns(name));
        }

        /** The lowest corner for which a name is not refused, or NONE. */
        int lowestFree(int name) {
            int bearers = bearers(name);
            int nearPuns = nearPuns(name);
            for (int c = 0; c < CORNERS; c++) {
                if (reason(name, c, bearers, nearPuns) == 0) {
                    return c;
                }
            }
            return NONE;
        }

        /** What is the same for all corners is handed in, so that days that are played 300 times stay quick. */
        private int reason(int name, int corner, int bearers, int nearPuns) {
            int old = borne[corner];
            if (withdrawn[name]) {
                return 1;
            }
            if (old == name) {
                return 2;
            }
            if (bearers >= settings[BEARS]) {
                return 3;
            }
            if ((nearPuns & 1 << corner) != 0) {
                return 4;
            }
            if (hasName(old) && honours[old] > honours[name]) {
                return 5;
            }
            if (hasName(old) && days - gotDay[corner] < settings[RESTS]) {
                return 6;
            }
            return 0;
        }

        /** The corners, as a set, that have another corner near them which bears a pun on the name. */
        private int nearPuns(int name) {
            int set = 0;
            for (int c = 0; c < CORNERS; c++) {
                if (isPun(name, borne[c])) {
                    set |= around(c);
                }
            }
            return set;
        }

        /** The corners near a corner, without itself, as a set. */
        private int around(int corner) {
            int first = Math.max(0, corner - settings[NEAR]);
            int last = Math.min(CORNERS - 1, corner + settings[NEAR]);
            int set = 0;
            for (int c = first; c <= last; c++) {
                if (c != corner) {
                    set |= 1 << c;
                }
            }
            return set;
        }

        void place(int name, int corner) {
            borne[corner] = name;
            gotDay[corner] = days;
            cornerGiven[corner]++;
            nameGiven[name]++;
            owed[corner] += 2;
            if (corner > 0) {
                owed[corner - 1]++;
            }
            if (corner < CORNERS - 1) {
                owed[corner + 1]++;
            }
        }

        void bare(int corner) {
            borne[corner] = NONE;
        }

        /** Withdraws a name, and tells how many corners bore it. */
        int drop(int name) {
            int bore = bearers(name);
            withdrawn[name] = true;
            for (int c = 0; c < CORNERS; c++) {
                if (borne[c] == name) {
                    bare(c);
                }
            }
            return bore;
        }

        // ---- days

        /** Lets days pass, and tells how many names are given in them. */
        int live(int count) {
            int given = 0;
            for (int day = 0; day < count; day++) {
                if (giveFromQueue()) {
                    given++;
                }
                setUpPosts();
                days++;
            }
            return given;
        }

        private boolean giveFromQueue() {
            for (int honour = HIGHEST_HONOUR; honour >= 0; honour--) {
                for (int name = 0; name < names; name++) {
                    if (honours[name] == honour && waits(name)) {
                        int corner = lowestFree(name);
                        if (corner != NONE) {
                            place(name, corner);
                            return true;
                        }
                    }
                }
            }
            return false;
        }

        private void setUpPosts() {
            for (int i = 0; i < settings[POSTS]; i++) {
                int corner = mostOwing();
                if (owed[corner] <= 0) {
                    return;
                }
                owed[corner]--;
                posted[corner]++;
            }
        }

        private int mostOwing() {
            int most = 0;
            for (int c = 1; c < CORNERS; c++) {
                if (owed[c] > owed[most]) {
                    most = c;
                }
            }
            return most;
        }

        // ---- maps

        int wrongOnMap() {
            if (!mapIssued) {
                return NONE;
            }
            int wrong = 0;
            for (int c = 0; c < CORNERS; c++) {
                if (shown[c] != borne[c]) {
                    wrong++;
                }
            }
            return wrong;
        }

        void drawMap() {
            mapIssued = true;
            copyRow(borne, shown);
        }
    }
}
