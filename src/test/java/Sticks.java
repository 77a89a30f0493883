/** Sticks in the states that tests begin with, and all that can be asked of one. */
final class Sticks {
    static final int SLOW = 0, ZONE = 1, WIDE = 2, REACH = 3, CORNER = 4, STILL = 5, SHAKE = 6;

    private Sticks() {
    }

    static StickRests fresh(int... settingsAndValues) {
        StickRests s = new StickRests();
        for (int i = 0; i + 1 < settingsAndValues.length; i += 2) {
            s.set(settingsAndValues[i], settingsAndValues[i + 1]);
        }
        return s;
    }

    /** A stick that has been sampled so often, always in the middle. */
    static StickRests sampled(int samples) {
        StickRests s = new StickRests();
        for (int left = samples; left > 0; left -= 200) {
            s.hold(128, 128, Math.min(200, left));
        }
        return s;
    }

    /** A stick that rests at a place to the sixteenth, with the first settings and zone. */
    static StickRests restingAt(int x, int y) {
        StickRests s = fresh(SLOW, 1);
        for (int atX = 128, atY = 128; atX != x || atY != y;) {
            atX += Math.max(-6, Math.min(6, x - atX));
            atY += Math.max(-6, Math.min(6, y - atY));
            s.sample(atX, atY);
        }
        s.set(SLOW, 8);
        s.set(WIDE, 8);
        return s;
    }

    /** A stick with a zone of 50, the widest that there is; its rest is where it was at first. */
    static StickRests widest() {
        StickRests s = fresh(SLOW, 64, ZONE, 30, WIDE, 20);
        for (int i = 0; i < 10; i++) {
            s.sample(158, 98);
            s.sample(98, 158);
        }
        return s;
    }

    static StickRests written(String text) {
        StickRests s = new StickRests();
        write(s, text);
        return s;
    }

    /** Puts a text on the pad, eight characters a call at most. Returns the last answer. */
    static int write(StickRests stick, String text) {
        int answer = 0;
        for (int start = 0; start < text.length(); start += 8) {
            answer = stick.put(number(text.substring(start, Math.min(text.length(), start + 8))));
        }
        return answer;
    }

    /** The number by which put() is given one to eight characters. */
    static long number(String characters) {
        long number = 0;
        for (int i = 0; i < characters.length(); i++) {
            number = number << 8 | characters.charAt(i);
        }
        return number;
    }

    /** All that undo brings back, as far as it can be asked at once. */
    static String state(StickRests s) {
        StringBuilder all = new StringBuilder();
        for (int what = 0; what < 17; what++) {
            all.append(s.count(what)).append(' ');
        }
        for (int what = 0; what < 4; what++) {
            all.append(s.of(0, what)).append(' ').append(s.of(1, what)).append(' ');
        }
        for (int rank = 0; rank < s.count(8); rank++) {
            for (int what = 0; what < 4; what++) {
                all.append(s.direction(rank, what)).append(' ');
            }
        }
        for (int at = 0; at < 256; at += 3) {
            all.append(s.wouldTell(at, 128)).append(' ').append(s.wouldTell(128, at)).append(' ');
        }
        return all.toString();
    }

    /** All that there is in an object, the pad, the history and the slots, too. It is used up by that. */
    static String everything(StickRests s) {
        StringBuilder all = new StringBuilder(state(s));
        all.append("pad ").append(s.count(17)).append(' ').append(s.fault()).append(' ');
        all.append("changes ").append(s.count(18)).append(' ');
        // A 9 can stand behind few texts: what fault() answers then tells a little about what stood there.
        all.append(s.put('9')).append(' ').append(s.fault()).append(' ').append(s.wipe()).append('\n');
        for (int i = 0; i < 10 && s.undo() >= 0; i++) {
            all.append("undone ").append(state(s)).append('\n');
        }
        for (int slot = 0; slot < 2; slot++) {
            all.append("slot ").append(s.restore(slot)).append(' ').append(state(s)).append('\n');
        }
        return all.toString();
    }
}
