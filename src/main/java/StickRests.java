/** A joystick whose rest is learned anew each time the hand lets go. */
public final class StickRests {
    public static final int NO_SUCH = -1, BAD_VALUE = -2, BAD_TEXT = -3, TOO_MANY = -4, NOT_POSSIBLE = -5, NONE = -6;
    public static final int SLOW = 0, ZONE = 1, WIDE = 2, REACH = 3, CORNER = 4, STILL = 5, SHAKE = 6;

    private static final int SETTINGS = 7;
    private static final int[] FIRST = {8, 6, 8, 100, 150, 12, 4};
    private static final int[] LEAST = {1, 1, 0, 60, 100, 2, 0};
    private static final int[] MOST = {64, 30, 20, 127, 200, 60, 20};

    private static final int AXIS_END = 255;
    private static final int MIDDLE = 2048;
    private static final int FULL = 100;
    private static final int DRIFT_BEYOND_ZONE = 8;
    private static final int BUTTONS = 8;
    private static final int MOST_SAMPLES = 9999;
    private static final int MOST_HELD = 200;
    private static final int MOST_LEARNING = 500;
    private static final int MOST_DRIFTING = 200;
    private static final int SIGNED = 1000;
    private static final int DIRECTIONS = 9;
    private static final int PAD_SIZE = 80;
    private static final int HISTORY_SIZE = 6;
    private static final int SLOTS = 2;
    private static final int ALLOWED = 0;

    private final Stick stick;
    // What-if questions are played on this one, so that none makes an object.
    private final Stick trial;
    private final Pad pad;
    private final History history;
    private final Stick[] slots;

    public StickRests() {
        stick = new Stick();
        trial = new Stick();
        pad = new Pad();
        history = new History();
        slots = new Stick[SLOTS];
    }

    // ---- changes

    public int set(int setting, int value) {
        if (setting < 0 || setting >= SETTINGS || value < LEAST[setting] || value > MOST[setting]) {
            return BAD_VALUE;
        }
        history.keep(stick);
        return stick.changeSetting(setting, value);
    }

    public int sample(int x, int y) {
        return takeAlike(x, y, 1);
    }

    public int hold(int x, int y, int many) {
        if (many < 1 || many > MOST_HELD) {
            return BAD_VALUE;
        }
        return takeAlike(x, y, many);
    }

    private int takeAlike(int x, int y, int many) {
        int refusal = stick.refusalOfSamples(x, y, many);
        if (refusal != ALLOWED) {
            return refusal;
        }
        history.keep(stick);
        for (int taken = 0; taken < many; taken++) {
            stick.take(x, y);
        }
        return stick.telling();
    }

    public int press(int button) {
        int refusal = stick.refusalOfPress(button);
        if (refusal != ALLOWED) {
            return refusal;
        }
        history.keep(stick);
        return stick.pushDown(button);
    }

    public int letUp(int button) {
        int refusal = stick.refusalOfLetUp(button);
        if (refusal != ALLOWED) {
            return refusal;
        }
        history.keep(stick);
        return stick.release(button);
    }

    public int reset() {
        history.keep(stick);
        return stick.toMiddle();
    }

    // ---- what there is

    public int of(int axis, int what) {
        if (axis != 0 && axis != 1) {
            return NO_SUCH;
        }
        return axis == 0 ? stick.aboutX(what) : stick.aboutY(what);
    }

    public int direction(int rank, int what) {
        return stick.directions.about(rank, what);
    }

    public int count(int what) {
        switch (what) {
            case 17: return pad.length;
            case 18: return history.size;
            default: return stick.number(what);
        }
    }

    // ---- what if; nothing changes

    public int wouldTell(int x, int y) {
        return isSample(x, y) ? stick.tellingAt(x, y) : BAD_VALUE;
    }

    public int learnedIn(int x, int y) {
        if (!isSample(x, y)) {
            return BAD_VALUE;
        }
        trial.becomeLike(stick);
        for (int taken = 0; taken <= MOST_LEARNING; taken++) {
            if (trial.isOffByNothing(x, y)) {
                return taken;
            }
            trial.take(x, y);
        }
        return NONE;
    }

    public int edge(int axis, int up) {
        if (axis != 0 && axis != 1) {
            return NO_SUCH;
        }
        if (up != 0 && up != 1) {
            return BAD_VALUE;
        }
        int step = up == 1 ? 1 : -1;
        for (int n = 1; n <= AXIS_END; n++) {
            int x = stick.restPlaceX() + (axis == 0 ? step * n : 0);
            int y = stick.restPlaceY() + (axis == 1 ? step * n : 0);
            if (isSample(x, y) && stick.tellingAt(x, y) != packed(0, 0)) {
                return n;
            }
        }
        return NONE;
    }

    public int driftsIn(int x, int y) {
        if (!isSample(x, y)) {
            return BAD_VALUE;
        }
        trial.becomeLike(stick);
        for (int many = 1; many <= MOST_DRIFTING; many++) {
            if (trial.wouldDrift(x, y)) {
                return many;
            }
            trial.take(x, y);
        }
        return NONE;
    }

    // ---- texts

    public int put(long characters) {
        return pad.append(characters);
    }

    public int wipe() {
        return pad.empty();
    }

    public int fault() {
        return pad.firstFault();
    }

    public int carryOut() {
        if (pad.firstFault() != NONE) {
            return BAD_TEXT;
        }
        history.keep(stick);
        int carriedOut = carryOutOrders();
        pad.empty();
        return carriedOut;
    }

    private int carryOutOrders() {
        int all = 0;
        pad.goToStart();
        for (int read = 0; read < PAD_SIZE && pad.readOrder(); read++) {
            int carriedOut = pad.kind == 's' ? takeFromPad() : moveButtonFromPad();
            all += carriedOut;
            if (carriedOut < pad.times) {
                return all;
            }
            pad.skip(';');
        }
        return all;
    }

    /** Returns how many of the samples that are written as one order were carried out. */
    private int takeFromPad() {
        int taken = 0;
        while (taken < pad.times && stick.refusalOfSamples(pad.first, pad.second, 1) == ALLOWED) {
            stick.take(pad.first, pad.second);
            taken++;
        }
        return taken;
    }

    private int moveButtonFromPad() {
        int button = pad.first;
        boolean goesDown = pad.kind == 'b';
        int refusal = goesDown ? stick.refusalOfPress(button) : stick.refusalOfLetUp(button);
        if (refusal != ALLOWED) {
            return 0;
        }
        if (goesDown) {
            stick.pushDown(button);
        } else {
            stick.release(button);
        }
        return 1;
    }

    // ---- undo, saving

    public int undo() {
        return history.takeBack(stick);
    }

    public int save(int slot) {
        if (slot < 0 || slot >= slots.length) {
            return BAD_VALUE;
        }
        Stick saved = slots[slot];
        if (saved == null) {
            saved = new Stick();
            slots[slot] = saved;
        }
        saved.becomeLike(stick);
        return stick.samples;
    }

    public int restore(int slot) {
        if (slot < 0 || slot >= slots.length) {
            return BAD_VALUE;
        }
        Stick saved = slots[slot];
        if (saved == null) {
            return NOT_POSSIBLE;
        }
        history.keep(stick);
        stick.becomeLike(saved);
        return stick.samples;
    }

    // ---- what all parts share

    private static boolean isSample(int x, int y) {
        return x >= 0 && x <= AXIS_END && y >= 0 && y <= AXIS_END;
    }

    private static int packed(int tellX, int tellY) {
        return SIGNED * (tellX + FULL) + tellY + FULL;
    }

    private static int quotient(int whole, int parts) {
        return parts == 0 ? 0 : whole / parts;
    }

    /** All that undo brings back and that a slot keeps. */
    private static final class Stick {
        private final int[] settings;
        private final Directions directions;
        private int restX, restY;
        private int zone;
        private int tellX, tellY;
        private int latestX, latestY;
        private int still;
        private int shaking;
        private int samples;
        private int letGo;
        private int drifted;
        private int down;
        private int tellingSamples;
        private int shakenInZone;

        Stick() {
            settings = FIRST.clone();
            directions = new Directions();
            restX = MIDDLE;
            restY = MIDDLE;
            zone = settings[ZONE];
        }

        void becomeLike(Stick other) {
            System.arraycopy(other.settings, 0, settings, 0, SETTINGS);
            directions.becomeLike(other.directions);
            restX = other.restX;
            restY = other.restY;
            zone = other.zone;
            tellX = other.tellX;
            tellY = other.tellY;
            latestX = other.latestX;
            latestY = other.latestY;
            still = other.still;
            shaking = other.shaking;
            samples = other.samples;
            letGo = other.letGo;
            drifted = other.drifted;
            down = other.down;
            tellingSamples = other.tellingSamples;
            shakenInZone = other.shakenInZone;
        }

        int changeSetting(int setting, int value) {
            if (setting < 0 || setting >= SETTINGS) {
                return BAD_VALUE;
            }
            int previous = settings[setting];
            settings[setting] = value;
            if (setting == ZONE || setting == WIDE) {
                zone = settings[ZONE];
            }
            return previous;
        }

        int toMiddle() {
            int off = Math.abs(restX - MIDDLE) + Math.abs(restY - MIDDLE);
            restX = MIDDLE;
            restY = MIDDLE;
            zone = settings[ZONE];
            still = 0;
            return off;
        }

        // ---- buttons

        int refusalOfPress(int button) {
            if (!isButton(button)) {
                return NO_SUCH;
            }
            return isDown(button) ? NOT_POSSIBLE : ALLOWED;
        }

        int refusalOfLetUp(int button) {
            if (!isButton(button)) {
                return NO_SUCH;
            }
            return isDown(button) ? ALLOWED : NOT_POSSIBLE;
        }

        private static boolean isButton(int button) {
            return button >= 0 && button < BUTTONS;
        }

        private boolean isDown(int button) {
            return (down >> button & 1) == 1;
        }

        int pushDown(int button) {
            down |= 1 << button;
            shaking = settings[SHAKE];
            return down;
        }

        int release(int button) {
            down &= ~(1 << button);
            return down;
        }

        // ---- what a sample would do

        int refusalOfSamples(int x, int y, int many) {
            if (!isSample(x, y)) {
                return BAD_VALUE;
            }
            return samples + many > MOST_SAMPLES ? NOT_POSSIBLE : ALLOWED;
        }

        int restPlaceX() {
            return restX / 16;
        }

        int restPlaceY() {
            return restY / 16;
        }

        boolean isOffByNothing(int x, int y) {
            return x == restPlaceX() && y == restPlaceY();
        }

        private int farthestOff(int x, int y) {
            return Math.max(Math.abs(x - restPlaceX()), Math.abs(y - restPlaceY()));
        }

        private int stillWith(int x, int y) {
            boolean isStill = samples > 0 && Math.abs(x - latestX) <= 1 && Math.abs(y - latestY) <= 1;
            return isStill ? still + 1 : 0;
        }

        boolean wouldDrift(int x, int y) {
            int off = farthestOff(x, y);
            return shaking == 0
                && off > zone
                && off <= zone + DRIFT_BEYOND_ZONE
                && stillWith(x, y) >= settings[STILL];
        }

        int tellingAt(int x, int y) {
            if (farthestOff(x, y) <= zone || wouldDrift(x, y)) {
                return packed(0, 0);
            }
            int leanX = leanOf(x - restPlaceX());
            int leanY = leanOf(y - restPlaceY());
            int sum = Math.abs(leanX) + Math.abs(leanY);
            int corner = settings[CORNER];
            if (sum > corner) {
                return packed(quotient(leanX * corner, sum), quotient(leanY * corner, sum));
            }
            return packed(leanX, leanY);
        }

        private int leanOf(int off) {
            int beyond = Math.abs(off) - zone;
            if (beyond <= 0) {
                return 0;
            }
            int lean = Math.min(FULL, quotient(beyond * FULL, settings[REACH] - zone));
            return off < 0 ? -lean : lean;
        }

        // ---- a sample

        int telling() {
            return packed(tellX, tellY);
        }

        private boolean tellsSomething() {
            return tellX != 0 || tellY != 0;
        }

        void take(int x, int y) {
            // All this hangs on the state ahead of the sample, so it is asked before anything changes.
            int telling = tellingAt(x, y);
            boolean rests = farthestOff(x, y) <= zone;
            boolean drifts = wouldDrift(x, y);
            still = stillWith(x, y);
            latestX = x;
            latestY = y;
            if (rests) {
                comeToRest(x, y);
            } else if (drifts) {
                driftTo(x, y);
            }
            tell(telling);
            if (shaking > 0) {
                shaking--;
            }
            samples++;
        }

        private void tell(int telling) {
            tellX = telling / SIGNED - FULL;
            tellY = telling % SIGNED - FULL;
            if (tellsSomething()) {
                tellingSamples++;
            }
            directions.note(Integer.compare(tellX, 0), Integer.compare(tellY, 0));
        }

        private void comeToRest(int x, int y) {
            if (tellsSomething()) {
                letGo++;
            }
            if (shaking > 0) {
                shakenInZone++;
                return;
            }
            fitZone(farthestOff(x, y));
            restX += quotient(16 * x - restX, settings[SLOW]);
            restY += quotient(16 * y - restY, settings[SLOW]);
        }

        private void fitZone(int off) {
            if (2 * off > zone) {
                zone = Math.min(zone + 1, settings[ZONE] + settings[WIDE]);
            } else if (4 * off <= zone) {
                zone = Math.max(zone - 1, settings[ZONE]);
            }
        }

        private void driftTo(int x, int y) {
            restX = 16 * x;
            restY = 16 * y;
            still = 0;
            drifted++;
        }

        // ---- what is asked

        int aboutX(int what) {
            return about(what, restX, tellX, latestX);
        }

        int aboutY(int what) {
            return about(what, restY, tellY, latestY);
        }

        private int about(int what, int rest, int tells, int latest) {
            switch (what) {
                case 0: return rest;
                case 1: return tells + FULL;
                case 2: return samples == 0 ? NONE : latest;
                case 3: return samples == 0 ? NONE : latest - rest / 16 + SIGNED;
                default: return BAD_VALUE;
            }
        }

        int number(int what) {
            if (what >= 10 && what - 10 < SETTINGS) {
                return settings[what - 10];
            }
            switch (what) {
                case 0: return samples;
                case 1: return zone;
                case 2: return still;
                case 3: return shaking;
                case 4: return letGo;
                case 5: return drifted;
                case 6: return down;
                case 7: return tellingSamples;
                case 8: return directions.unlike;
                case 9: return shakenInZone;
                default: return BAD_VALUE;
            }
        }
    }

    /** The directions that were told. Each has a number: 3 * (its sign of x and 1) + its sign of y and 1. */
    private static final class Directions {
        private final int[] byRank;
        private final int[] samplesIn;
        private final int[] longest;
        private int unlike;
        private int latest;
        private int run;

        Directions() {
            byRank = new int[DIRECTIONS];
            samplesIn = new int[DIRECTIONS];
            longest = new int[DIRECTIONS];
            latest = NONE;
        }

        void becomeLike(Directions other) {
            System.arraycopy(other.byRank, 0, byRank, 0, DIRECTIONS);
            System.arraycopy(other.samplesIn, 0, samplesIn, 0, DIRECTIONS);
            System.arraycopy(other.longest, 0, longest, 0, DIRECTIONS);
            unlike = other.unlike;
            latest = other.latest;
            run = other.run;
        }

        void note(int signX, int signY) {
            int told = 3 * (signX + 1) + signY + 1;
            if (told < 0 || told >= DIRECTIONS) {
                return;
            }
            if (samplesIn[told] == 0 && unlike < DIRECTIONS) {
                byRank[unlike] = told;
                unlike++;
            }
            run = told == latest ? run + 1 : 1;
            latest = told;
            samplesIn[told]++;
            longest[told] = Math.max(longest[told], run);
        }

        int about(int rank, int what) {
            if (rank < 0 || rank >= unlike || rank >= DIRECTIONS) {
                return NO_SUCH;
            }
            int told = byRank[rank];
            if (told < 0 || told >= DIRECTIONS) {
                return NO_SUCH;
            }
            switch (what) {
                case 0: return told / 3;
                case 1: return told % 3;
                case 2: return samplesIn[told];
                case 3: return longest[told];
                default: return BAD_VALUE;
            }
        }
    }

    /** The text, and a reader that goes through its orders. */
    private static final class Pad {
        private final char[] text;
        private int length;
        // The first character that is not read yet; behind a failed read, the one that cannot stand there.
        private int place;
        private char kind;
        private int first, second, times;

        Pad() {
            text = new char[PAD_SIZE];
        }

        int append(long characters) {
            int many = charactersIn(characters);
            if (many == 0) {
                return BAD_VALUE;
            }
            if (length + many > PAD_SIZE) {
                return TOO_MANY;
            }
            for (int behind = many - 1; behind >= 0 && length < text.length; behind--) {
                text[length] = (char) (characters >>> 8 * behind & 255);
                length++;
            }
            return length;
        }

        /** Returns how many characters there are, 0 if one of them or the whole number is not allowed. */
        private static int charactersIn(long characters) {
            int many = 0;
            long left = characters;
            while (left != 0 && many < 8) {
                long code = left & 255;
                if (code < 33 || code > 126) {
                    return 0;
                }
                many++;
                left >>>= 8;
            }
            return many;
        }

        int empty() {
            int had = length;
            length = 0;
            return had;
        }

        int firstFault() {
            goToStart();
            for (int read = 0; read < PAD_SIZE; read++) {
                if (!readOrder()) {
                    return place;
                }
                if (place == length) {
                    return NONE;
                }
                if (!skip(';')) {
                    return place;
                }
            }
            return place;
        }

        void goToStart() {
            place = 0;
        }

        boolean skip(char wanted) {
            if (next() != wanted) {
                return false;
            }
            place++;
            return true;
        }

        /** The character to be read next, or 0 at the end: no character of the pad is 0. */
        private char next() {
            return place >= 0 && place < length && place < text.length ? text[place] : 0;
        }

        boolean readOrder() {
            kind = next();
            times = 1;
            if (kind == 's') {
                place++;
                return readSamples();
            }
            if (kind == 'b' || kind == 'u') {
                place++;
                first = readDigit();
                return first >= 0;
            }
            return false;
        }

        private boolean readSamples() {
            first = readNumber();
            if (first < 0 || !skip(',')) {
                return false;
            }
            second = readNumber();
            if (second < 0 || !skip('*')) {
                return second >= 0;
            }
            times = readNumber();
            return times >= 0;
        }

        /** Reads no digit more than a number can have: that one is then what cannot stand at its place. */
        private int readNumber() {
            int number = readDigit();
            if (number <= 0) {
                return number;
            }
            for (int digits = 1; digits < 3; digits++) {
                int digit = readDigit();
                if (digit < 0) {
                    return number;
                }
                number = 10 * number + digit;
            }
            return number;
        }

        private int readDigit() {
            char digit = next();
            if (digit < '0' || digit > '9') {
                return NONE;
            }
            place++;
            return digit - '0';
        }
    }

    /** The states that undo brings back, in a ring: the oldest one is written over by one too many. */
    private static final class History {
        private final Stick[] states;
        private int oldest;
        private int size;

        History() {
            states = new Stick[HISTORY_SIZE];
        }

        private int placeOf(int age) {
            return Math.floorMod(oldest + age, HISTORY_SIZE);
        }

        void keep(Stick stick) {
            int place = placeOf(size);
            if (place < 0 || place >= states.length) {
                return;
            }
            Stick state = states[place];
            if (state == null) {
                state = new Stick();
                states[place] = state;
            }
            state.becomeLike(stick);
            if (size < HISTORY_SIZE) {
                size++;
            } else {
                oldest = placeOf(1);
            }
        }

        int takeBack(Stick stick) {
            int place = placeOf(size - 1);
            if (size == 0 || place < 0 || place >= states.length) {
                return NOT_POSSIBLE;
            }
            Stick state = states[place];
            if (state == null) {
                return NOT_POSSIBLE;
            }
            stick.becomeLike(state);
            size--;
            return size;
        }
    }
}
