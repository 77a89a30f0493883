import java.util.ArrayDeque;
import java.util.ArrayList;
import java.util.Deque;
import java.util.List;
import java.util.regex.Matcher;
import java.util.regex.Pattern;

/**
 * The document once more, written for plainness and not for speed: a state is never changed, a sample makes a new one,
 * and what was told is a chain of all that was told, which every question about directions walks.
 */
final class PlainModel {
    private static final int NO_SUCH = -1, BAD_VALUE = -2, BAD_TEXT = -3, TOO_MANY = -4, NOT_POSSIBLE = -5, NONE = -6;
    private static final int[][] RANGES = {{1, 64}, {1, 30}, {0, 20}, {60, 127}, {100, 200}, {2, 60}, {0, 20}};
    private static final String NUMBER = "(0|[1-9][0-9]?[0-9]?)";
    private static final String ORDER = "(s" + NUMBER + "," + NUMBER + "([*]" + NUMBER + ")?|[bu][0-9])";
    private static final Pattern TEXT = Pattern.compile(ORDER + "(;" + ORDER + ")*");

    /** One sample: what came, and what was told. */
    private record Sample(int x, int y, int tellX, int tellY, Sample ahead, int number) {
        boolean tells() {
            return tellX != 0 || tellY != 0;
        }

        String direction() {
            return (Integer.signum(tellX) + 1) + "," + (Integer.signum(tellY) + 1);
        }
    }

    private record State(List<Integer> settings, int restX, int restY, int zone, Sample last, int still, int shake,
                         int letGo, int drifted, int shook, int down) {
        int setting(int which) {
            return settings.get(which);
        }

        int samples() {
            return last == null ? 0 : last.number();
        }

        int answer() {
            return last == null ? 100100 : 1000 * (last.tellX() + 100) + last.tellY() + 100;
        }

        State withSetting(int which, int value) {
            List<Integer> changed = new ArrayList<>(settings);
            changed.set(which, value);
            int newZone = which == 1 || which == 2 ? changed.get(1) : zone;
            return new State(List.copyOf(changed), restX, restY, newZone, last, still, shake, letGo, drifted, shook, down);
        }

        State withButtons(int buttons, int shakes) {
            return new State(settings, restX, restY, zone, last, still, shakes, letGo, drifted, shook, buttons);
        }

        State inTheMiddle() {
            return new State(settings, 2048, 2048, setting(1), last, 0, shake, letGo, drifted, shook, down);
        }

        State sampled(int x, int y) {
            int nowStill = 0;
            if (last != null && Math.abs(last.x() - x) < 2 && Math.abs(last.y() - y) < 2) {
                nowStill = still + 1;
            }
            int dx = x - restX / 16;
            int dy = y - restY / 16;
            int d = Math.max(Math.abs(dx), Math.abs(dy));
            int nextShake = Math.max(0, shake - 1);
            if (d <= zone) {
                int gone = letGo + (last != null && last.tells() ? 1 : 0);
                Sample quiet = new Sample(x, y, 0, 0, last, samples() + 1);
                if (shake > 0) {
                    return new State(settings, restX, restY, zone, quiet, nowStill, nextShake, gone, drifted, shook + 1, down);
                }
                int newZone = zone;
                if (2 * d > zone && zone < setting(1) + setting(2)) {
                    newZone = zone + 1;
                }
                if (4 * d <= zone && zone > setting(1)) {
                    newZone = zone - 1;
                }
                int newX = restX + (16 * x - restX) / setting(0);
                int newY = restY + (16 * y - restY) / setting(0);
                return new State(settings, newX, newY, newZone, quiet, nowStill, nextShake, gone, drifted, shook, down);
            }
            if (shake == 0 && nowStill >= setting(5) && d <= zone + 8) {
                Sample quiet = new Sample(x, y, 0, 0, last, samples() + 1);
                return new State(settings, 16 * x, 16 * y, zone, quiet, 0, 0, letGo, drifted + 1, shook, down);
            }
            int tx = Integer.signum(dx) * much(Math.abs(dx));
            int ty = Integer.signum(dy) * much(Math.abs(dy));
            int sum = Math.abs(tx) + Math.abs(ty);
            if (sum > setting(4)) {
                tx = tx * setting(4) / sum;
                ty = ty * setting(4) / sum;
            }
            Sample told = new Sample(x, y, tx, ty, last, samples() + 1);
            return new State(settings, restX, restY, zone, told, nowStill, nextShake, letGo, drifted, shook, down);
        }

        private int much(int off) {
            return off <= zone ? 0 : Math.min(100, (off - zone) * 100 / (setting(3) - zone));
        }

        List<Sample> all() {
            ArrayDeque<Sample> samples = new ArrayDeque<>();
            for (Sample s = last; s != null; s = s.ahead()) {
                samples.addFirst(s);
            }
            return new ArrayList<>(samples);
        }

        List<String> directions() {
            List<String> directions = new ArrayList<>();
            for (Sample s : all()) {
                if (!directions.contains(s.direction())) {
                    directions.add(s.direction());
                }
            }
            return directions;
        }
    }

    private State now = new State(List.of(8, 6, 8, 100, 150, 12, 4), 2048, 2048, 6, null, 0, 0, 0, 0, 0, 0);
    private final Deque<State> history = new ArrayDeque<>();
    private final State[] slots = new State[2];
    private String pad = "";

    private int change(State next, int answer) {
        history.addLast(now);
        if (history.size() > 6) {
            history.removeFirst();
        }
        now = next;
        return answer;
    }

    private static boolean off(int x, int y) {
        return x < 0 || x > 255 || y < 0 || y > 255;
    }

    int set(int setting, int value) {
        if (setting < 0 || setting > 6 || value < RANGES[setting][0] || value > RANGES[setting][1]) {
            return BAD_VALUE;
        }
        return change(now.withSetting(setting, value), now.setting(setting));
    }

    int sample(int x, int y) {
        if (off(x, y)) {
            return BAD_VALUE;
        }
        if (now.samples() == 9999) {
            return NOT_POSSIBLE;
        }
        State next = now.sampled(x, y);
        return change(next, next.answer());
    }

    int hold(int x, int y, int many) {
        if (off(x, y) || many < 1 || many > 200) {
            return BAD_VALUE;
        }
        if (now.samples() + many > 9999) {
            return NOT_POSSIBLE;
        }
        State next = now;
        for (int i = 0; i < many; i++) {
            next = next.sampled(x, y);
        }
        return change(next, next.answer());
    }

    int press(int button) {
        if (button < 0 || button > 7) {
            return NO_SUCH;
        }
        if ((now.down() & 1 << button) != 0) {
            return NOT_POSSIBLE;
        }
        int buttons = now.down() + (1 << button);
        return change(now.withButtons(buttons, now.setting(6)), buttons);
    }

    int letUp(int button) {
        if (button < 0 || button > 7) {
            return NO_SUCH;
        }
        if ((now.down() & 1 << button) == 0) {
            return NOT_POSSIBLE;
        }
        int buttons = now.down() - (1 << button);
        return change(now.withButtons(buttons, now.shake()), buttons);
    }

    int reset() {
        return change(now.inTheMiddle(), Math.abs(now.restX() - 2048) + Math.abs(now.restY() - 2048));
    }

    int of(int axis, int what) {
        if (axis < 0 || axis > 1) {
            return NO_SUCH;
        }
        if (what < 0 || what > 3) {
            return BAD_VALUE;
        }
        boolean isX = axis == 0;
        int rest = isX ? now.restX() : now.restY();
        if (what == 0) {
            return rest;
        }
        if (what == 1) {
            return isX ? now.answer() / 1000 : now.answer() % 1000;
        }
        if (now.last() == null) {
            return NONE;
        }
        int latest = isX ? now.last().x() : now.last().y();
        return what == 2 ? latest : latest - rest / 16 + 1000;
    }

    int direction(int rank, int what) {
        List<String> directions = now.directions();
        if (rank < 0 || rank >= directions.size()) {
            return NO_SUCH;
        }
        if (what < 0 || what > 3) {
            return BAD_VALUE;
        }
        String wanted = directions.get(rank);
        if (what < 2) {
            return Integer.parseInt(wanted.split(",")[what]);
        }
        int all = 0;
        int row = 0;
        int most = 0;
        for (Sample s : now.all()) {
            boolean same = s.direction().equals(wanted);
            row = same ? row + 1 : 0;
            all += same ? 1 : 0;
            most = Math.max(most, row);
        }
        return what == 2 ? all : most;
    }

    int count(int what) {
        if (what >= 10 && what <= 16) {
            return now.setting(what - 10);
        }
        return switch (what) {
            case 0 -> now.samples();
            case 1 -> now.zone();
            case 2 -> now.still();
            case 3 -> now.shake();
            case 4 -> now.letGo();
            case 5 -> now.drifted();
            case 6 -> now.down();
            case 7 -> (int) now.all().stream().filter(Sample::tells).count();
            case 8 -> now.directions().size();
            case 9 -> now.shook();
            case 17 -> pad.length();
            case 18 -> history.size();
            default -> BAD_VALUE;
        };
    }

    int wouldTell(int x, int y) {
        return off(x, y) ? BAD_VALUE : now.sampled(x, y).answer();
    }

    int learnedIn(int x, int y) {
        if (off(x, y)) {
            return BAD_VALUE;
        }
        State next = now;
        for (int n = 0; n <= 500; n++) {
            if (next.restX() / 16 == x && next.restY() / 16 == y) {
                return n;
            }
            next = next.sampled(x, y);
        }
        return NONE;
    }

    int edge(int axis, int up) {
        if (axis < 0 || axis > 1) {
            return NO_SUCH;
        }
        if (up < 0 || up > 1) {
            return BAD_VALUE;
        }
        int x = now.restX() / 16;
        int y = now.restY() / 16;
        for (int n = 1; n <= 255; n++) {
            int by = up == 1 ? n : -n;
            int atX = axis == 0 ? x + by : x;
            int atY = axis == 0 ? y : y + by;
            if (off(atX, atY)) {
                return NONE;
            }
            if (now.sampled(atX, atY).last().tells()) {
                return n;
            }
        }
        return NONE;
    }

    int driftsIn(int x, int y) {
        if (off(x, y)) {
            return BAD_VALUE;
        }
        State next = now;
        for (int n = 1; n <= 200; n++) {
            next = next.sampled(x, y);
            if (next.drifted() > now.drifted()) {
                return n;
            }
        }
        return NONE;
    }

    int put(long characters) {
        StringBuilder added = new StringBuilder();
        boolean ended = false;
        for (int byteAt = 0; byteAt < 8; byteAt++) {
            int code = (int) (characters >> 8 * byteAt) & 255;
            if (code == 0) {
                ended = true;
            } else if (ended || code < 33 || code > 126) {
                return BAD_VALUE;
            } else {
                added.insert(0, (char) code);
            }
        }
        if (added.length() == 0) {
            return BAD_VALUE;
        }
        if (pad.length() + added.length() > 80) {
            return TOO_MANY;
        }
        pad += added;
        return pad.length();
    }

    int wipe() {
        int length = pad.length();
        pad = "";
        return length;
    }

    int fault() {
        for (int end = 1; end <= pad.length(); end++) {
            Matcher matcher = TEXT.matcher(pad.substring(0, end));
            if (!matcher.matches() && !matcher.hitEnd()) {
                return end - 1;
            }
        }
        return TEXT.matcher(pad).matches() ? NONE : pad.length();
    }

    int carryOut() {
        if (fault() != NONE) {
            return BAD_TEXT;
        }
        List<int[]> orders = new ArrayList<>();
        for (String order : pad.split(";")) {
            if (order.charAt(0) == 's') {
                String[] parts = order.substring(1).split("[,*]");
                int times = parts.length > 2 ? Integer.parseInt(parts[2]) : 1;
                for (int i = 0; i < times; i++) {
                    orders.add(new int[] {'s', Integer.parseInt(parts[0]), Integer.parseInt(parts[1])});
                }
            } else {
                orders.add(new int[] {order.charAt(0), order.charAt(1) - '0'});
            }
        }
        List<State> kept = new ArrayList<>(history);
        State before = now;
        int done = 0;
        for (int[] order : orders) {
            int answer = order[0] == 's' ? sample(order[1], order[2]) : order[0] == 'b' ? press(order[1]) : letUp(order[1]);
            if (answer < 0) {
                break;
            }
            done++;
        }
        State after = now;
        history.clear();
        history.addAll(kept);
        now = before;
        pad = "";
        return change(after, done);
    }

    int undo() {
        if (history.isEmpty()) {
            return NOT_POSSIBLE;
        }
        now = history.removeLast();
        return history.size();
    }

    int save(int slot) {
        if (slot < 0 || slot > 1) {
            return BAD_VALUE;
        }
        slots[slot] = now;
        return now.samples();
    }

    int restore(int slot) {
        if (slot < 0 || slot > 1) {
            return BAD_VALUE;
        }
        if (slots[slot] == null) {
            return NOT_POSSIBLE;
        }
        return change(slots[slot], slots[slot].samples());
    }
}
