/** Promises 1 to 7: a new object, set, sample, hold, press, letUp, reset. */
public final class ChangesTest {
    private static final Checks CHECKS = new Checks();

    public static void main(String[] args) {
        newObject();
        setRanges();
        setZoneAnew();
        sampleTells();
        sampleCutsCorners();
        sampleIsStill();
        sampleLetsGo();
        sampleLearns();
        sampleFitsZone();
        sampleDrifts();
        sampleDriftBounds();
        sampleShakes();
        sampleWrong();
        sampleBound();
        hold();
        holdBound();
        press();
        letUp();
        reset();
        CHECKS.end("ChangesTest");
    }

    private static void due(String call, long got, long want) {
        CHECKS.due(call, got, want);
    }

    private static StickRests fresh(int... settingsAndValues) {
        StickRests s = new StickRests();
        for (int i = 0; i + 1 < settingsAndValues.length; i += 2) {
            s.set(settingsAndValues[i], settingsAndValues[i + 1]);
        }
        return s;
    }

    // ---- promise 1

    private static void newObject() {
        StickRests s = new StickRests();
        int[] numbers = {0, 6, 0, 0, 0, 0, 0, 0, 0, 0, 8, 6, 8, 100, 150, 12, 4, 0, 0};
        for (int what = 0; what < numbers.length; what++) {
            due("1: new, count(" + what + ")", s.count(what), numbers[what]);
        }
        for (int axis = 0; axis < 2; axis++) {
            due("1: new, rest", s.of(axis, 0), 2048);
            due("1: new, tells", s.of(axis, 1), 100);
            due("1: new, latest", s.of(axis, 2), -6);
            due("1: new, off", s.of(axis, 3), -6);
        }
        due("1: new, direction", s.direction(0, 0), -1);
        due("1: new, press", s.press(0), 1);
        s = new StickRests();
        due("1: new, undo", s.undo(), -5);
        due("1: new, restore(0)", s.restore(0), -5);
        due("1: new, restore(1)", s.restore(1), -5);
        due("1: new, fault", s.fault(), 0);
        due("1: new, wipe", s.wipe(), 0);
    }

    // ---- promise 2

    private static void setRanges() {
        int[] first = {8, 6, 8, 100, 150, 12, 4};
        int[] least = {1, 1, 0, 60, 100, 2, 0};
        int[] most = {64, 30, 20, 127, 200, 60, 20};
        for (int setting = 0; setting < 7; setting++) {
            StickRests s = new StickRests();
            String call = "2: set(" + setting + ", ";
            due(call + "below)", s.set(setting, least[setting] - 1), -2);
            due(call + "above)", s.set(setting, most[setting] + 1), -2);
            due(call + "far below)", s.set(setting, Integer.MIN_VALUE), -2);
            due(call + "far above)", s.set(setting, Integer.MAX_VALUE), -2);
            due(call + "wrong) is no change", s.count(18), 0);
            due(call + "wrong) changes nothing", s.count(10 + setting), first[setting]);
            due(call + "least)", s.set(setting, least[setting]), first[setting]);
            due(call + "least) stands", s.count(10 + setting), least[setting]);
            due(call + "most)", s.set(setting, most[setting]), least[setting]);
            due(call + "most again)", s.set(setting, most[setting]), most[setting]);
            due(call + "..) is a change", s.count(18), 3);
        }
        StickRests s = new StickRests();
        due("2: set(-1, 5)", s.set(-1, 5), -2);
        due("2: set(7, 5)", s.set(7, 5), -2);
        due("2: set(MAX, 5)", s.set(Integer.MAX_VALUE, 5), -2);
        due("2: set(MIN, 5)", s.set(Integer.MIN_VALUE, 5), -2);
        due("2: no change", s.count(18), 0);
    }

    private static void setZoneAnew() {
        for (int setting = 0; setting < 7; setting++) {
            StickRests s = new StickRests();
            s.hold(132, 128, 2);
            due("2: wide zone", s.count(1), 8);
            s.set(setting, s.count(10 + setting));
            boolean anew = setting == StickRests.ZONE || setting == StickRests.WIDE;
            due("2: zone behind set(" + setting + ", the same)", s.count(1), anew ? 6 : 8);
        }
        StickRests s = fresh(StickRests.ZONE, 9);
        due("2: zone is the new ZONE", s.count(1), 9);
        s.hold(133, 128, 1);
        due("2: zone 10", s.count(1), 10);
        s.set(StickRests.WIDE, 20);
        due("2: zone is ZONE again", s.count(1), 9);
    }

    // ---- promise 3

    private static void sampleTells() {
        due("3: in the zone", fresh().sample(134, 128), 100100);
        due("3: in the zone, below", fresh().sample(122, 122), 100100);
        due("3: one beyond", fresh().sample(135, 128), 101100);
        due("3: one beyond, below", fresh().sample(121, 128), 99100);
        due("3: one beyond on y", fresh().sample(128, 135), 100101);
        due("3: one beyond on y, below", fresh().sample(128, 121), 100099);
        due("3: y in its zone tells 0", fresh().sample(178, 134), 146100);
        due("3: rounded towards 0, below", fresh().sample(78, 122), 54100);
        due("3: the most", fresh().sample(228, 128), 200100);
        due("3: one less than the most", fresh().sample(227, 128), 198100);
        due("3: 100 at most", fresh().sample(255, 128), 200100);
        due("3: 100 at most, below", fresh().sample(0, 128), 100);
        due("3: 100 at most on y", fresh().sample(128, 0), 100000);
        due("3: REACH 60", fresh(StickRests.REACH, 60).sample(155, 128), 138100);
        due("3: REACH 127 tells nothing yet", fresh(StickRests.REACH, 127).sample(135, 128), 100100);
        due("3: REACH 127", fresh(StickRests.REACH, 127).sample(136, 128), 101100);
        StickRests s = fresh();
        s.hold(132, 128, 2);
        due("3: the wide zone counts, not ZONE", s.sample(137, 128), 101100);
        due("3: told is kept", s.of(0, 1), 101);
        due("3: latest", s.of(0, 2), 137);
    }

    private static void sampleCutsCorners() {
        due("3: corner", fresh().sample(255, 255), 175175);
        due("3: corner, right below", fresh().sample(255, 0), 175025);
        due("3: corner, left", fresh().sample(0, 255), 25175);
        due("3: just CORNER is not cut", fresh().sample(255, 181), 200150);
        due("3: one more is cut", fresh().sample(255, 182), 199150);
        due("3: cut towards 0", fresh().sample(0, 74), 1050);
        due("3: CORNER 200 cuts nothing", fresh(StickRests.CORNER, 200).sample(255, 255), 200200);
        due("3: CORNER 100", fresh(StickRests.CORNER, 100).sample(0, 0), 50050);
        // 100 and 1 together are 101: the 1 becomes 100 / 101, which is 0.
        due("3: CORNER 100 takes a little one away", fresh(StickRests.CORNER, 100).sample(255, 135), 199100);
    }

    private static void sampleIsStill() {
        StickRests s = fresh();
        s.sample(0, 0);
        due("3: the first sample is not still", s.count(2), 0);
        s.sample(1, 1);
        due("3: one off is still", s.count(2), 1);
        s.sample(0, 0);
        due("3: one off below is still", s.count(2), 2);
        s.sample(0, 0);
        due("3: the same is still", s.count(2), 3);
        s.sample(0, 2);
        due("3: two off on y", s.count(2), 0);
        s.sample(1, 2);
        s.sample(3, 2);
        due("3: two off on x", s.count(2), 0);
        s.sample(4, 2);
        s.sample(5, 2);
        due("3: against the sample ahead", s.count(2), 2);
        s = fresh();
        s.hold(128, 128, 5);
        due("3: counted in the zone, too", s.count(2), 4);
    }

    private static void sampleLetsGo() {
        StickRests s = fresh();
        s.sample(128, 128);
        due("3: nothing told, no letting go", s.count(4), 0);
        s.sample(200, 128);
        due("3: out, no letting go yet", s.count(4), 0);
        s.sample(128, 128);
        due("3: let go", s.count(4), 1);
        s.sample(128, 128);
        due("3: let go once", s.count(4), 1);
        s.sample(128, 200);
        s.press(0);
        s.sample(128, 128);
        due("3: let go while a press shakes", s.count(4), 2);
        s = fresh(StickRests.REACH, 127);
        s.sample(200, 128);
        s.sample(135, 128);
        due("3: beyond the zone, telling nothing, is not let go", s.count(4), 0);
        s.sample(128, 128);
        due("3: nothing was told ahead", s.count(4), 0);
    }

    private static void sampleLearns() {
        StickRests s = fresh();
        s.sample(132, 124);
        due("3: rest of x", s.of(0, 0), 2056);
        due("3: rest of y", s.of(1, 0), 2040);
        s.sample(200, 124);
        due("3: nothing is learned out of the zone", s.of(0, 0) + s.of(1, 0), 2056 + 2040);
        s = fresh(StickRests.SLOW, 7);
        s.sample(127, 129);
        due("3: rounded towards 0, below", s.of(0, 0), 2046);
        due("3: rounded towards 0, above", s.of(1, 0), 2050);
        s = fresh(StickRests.SLOW, 64);
        s.sample(131, 125);
        due("3: less than one", s.of(0, 0) + s.of(1, 0), 4096);
        s.sample(132, 124);
        due("3: just one up", s.of(0, 0), 2049);
        due("3: just one down", s.of(1, 0), 2047);
        s = fresh(StickRests.SLOW, 1);
        s.sample(133, 123);
        due("3: at once, x", s.of(0, 0), 2128);
        due("3: at once, y", s.of(1, 0), 1968);
        s.sample(139, 128);
        due("3: zone from the learned rest", s.of(0, 1), 100);
        due("3: and learned again", s.of(0, 0), 2224);
    }

    private static void sampleFitsZone() {
        StickRests s = fresh(StickRests.SLOW, 64);
        s.sample(131, 128);
        due("3: 2 * 3 is not more than 6", s.count(1), 6);
        s.sample(128, 132);
        due("3: 2 * 4 is more than 6", s.count(1), 7);
        s.sample(132, 128);
        due("3: 2 * 4 is more than 7", s.count(1), 8);
        s.sample(132, 128);
        due("3: 2 * 4 is not more than 8", s.count(1), 8);
        s.sample(131, 128);
        due("3: 4 * 3 is more than 8", s.count(1), 8);
        s.sample(130, 130);
        due("3: 4 * 2 is not more than 8", s.count(1), 7);
        s.sample(126, 128);
        due("3: 4 * 2 is more than 7", s.count(1), 7);
        s.hold(128, 128, 3);
        due("3: ZONE at least", s.count(1), 6);
        s = fresh(StickRests.SLOW, 64, StickRests.WIDE, 1);
        s.hold(134, 128, 5);
        due("3: ZONE and WIDE at most", s.count(1), 7);
        s = fresh(StickRests.SLOW, 64, StickRests.WIDE, 0);
        s.hold(134, 128, 5);
        due("3: WIDE 0", s.count(1), 6);
        s = fresh(StickRests.SLOW, 1);
        s.sample(134, 128);
        due("3: off by the rest ahead, not by the learned one", s.count(1), 7);
    }

    private static void sampleDrifts() {
        StickRests s = fresh();
        due("3: still held", s.hold(140, 120, 12), 106098);
        due("3: not drifted yet", s.count(5), 0);
        due("3: eleven still", s.count(2), 11);
        due("3: drifts", s.sample(140, 120), 100100);
        due("3: drifted", s.count(5), 1);
        due("3: still ones anew", s.count(2), 0);
        due("3: rest of x", s.of(0, 0), 2240);
        due("3: rest of y", s.of(1, 0), 1920);
        due("3: drifting tells nothing", s.count(7), 12);
        due("3: drifting is no letting go", s.count(4), 0);
        due("3: drifted samples are not in the zone", s.count(9), 0);
        s.sample(140, 120);
        due("3: nothing was told ahead", s.count(4), 0);
        due("3: still again", s.count(2), 1);
        s = fresh();
        s.hold(132, 128, 2);
        s.hold(143, 128, 13);
        due("3: drifted with a wide zone", s.count(5), 1);
        due("3: drifting keeps the zone", s.count(1), 8);
        s = fresh();
        s.hold(141, 128, 12);
        due("3: drifts on the sample's own place", s.sample(140, 129), 100100);
        due("3: the rest is there", s.of(0, 0) * 10000 + s.of(1, 0), 2240 * 10000 + 2064);
    }

    private static void sampleDriftBounds() {
        StickRests s = fresh();
        s.hold(142, 114, 13);
        due("3: zone and 8 drifts", s.count(5), 1);
        s = fresh();
        s.hold(143, 128, 60);
        due("3: zone and 9 does not", s.count(5), 0);
        s = fresh();
        s.hold(140, 143, 60);
        due("3: the greater one counts", s.count(5), 0);
        s = fresh(StickRests.STILL, 2);
        s.hold(140, 128, 2);
        due("3: STILL 2, not yet", s.count(5), 0);
        s.sample(140, 128);
        due("3: STILL 2", s.count(5), 1);
        s = fresh(StickRests.STILL, 60);
        s.hold(140, 128, 60);
        due("3: STILL 60, not yet", s.count(5), 0);
        s.sample(141, 127);
        due("3: STILL 60", s.count(5), 1);
        s = fresh(StickRests.WIDE, 0, StickRests.SLOW, 64);
        s.hold(134, 128, 13);
        due("3: still in the zone", s.count(2), 12);
        due("3: drifts at once", s.sample(135, 128), 100100);
        due("3: drifted at once", s.of(0, 0), 2160);
        s = fresh();
        s.hold(134, 134, 100);
        due("3: no drift in the zone", s.count(5), 0);
    }

    private static void sampleShakes() {
        StickRests s = fresh();
        s.press(2);
        s.hold(132, 128, 3);
        due("3: nothing is learned", s.of(0, 0), 2048);
        due("3: the zone stays", s.count(1), 6);
        due("3: in the zone while it shook", s.count(9), 3);
        due("3: one left", s.count(3), 1);
        s.sample(132, 128);
        due("3: the last one that shakes", s.count(9), 4);
        due("3: still nothing learned", s.of(0, 0), 2048);
        s.sample(132, 128);
        due("3: no more shaking", s.count(9), 4);
        due("3: learned again", s.of(0, 0), 2056);
        due("3: the zone widens again", s.count(1), 7);
        s = fresh(StickRests.STILL, 2);
        s.press(0);
        due("3: no drift while it shakes", s.hold(140, 128, 4), 106100);
        due("3: no drift", s.count(5), 0);
        due("3: out of the zone it shakes off, too", s.count(3), 0);
        due("3: not in the zone", s.count(9), 0);
        due("3: then it drifts", s.sample(140, 128), 100100);
        s = fresh(StickRests.SHAKE, 0);
        s.press(0);
        s.sample(132, 128);
        due("3: SHAKE 0 shakes nothing", s.of(0, 0), 2056);
        due("3: none shook", s.count(9), 0);
    }

    private static void sampleWrong() {
        StickRests s = fresh();
        int[][] wrong = {{-1, 0}, {256, 0}, {0, -1}, {0, 256}, {Integer.MIN_VALUE, 5}, {5, Integer.MAX_VALUE}};
        for (int[] at : wrong) {
            due("3: sample(" + at[0] + ", " + at[1] + ")", s.sample(at[0], at[1]), -2);
        }
        due("3: a wrong one is not counted", s.count(0), 0);
        due("3: a wrong one is no change", s.count(18), 0);
        due("3: corners of the range", s.sample(0, 255), 25175);
        due("3: counted", s.count(0), 1);
        due("3: a change", s.count(18), 1);
    }

    private static StickRests full() {
        StickRests s = fresh();
        for (int i = 0; i < 49; i++) {
            s.hold(128, 128, 200);
        }
        s.hold(128, 128, 198);
        return s;
    }

    private static void sampleBound() {
        StickRests s = full();
        due("3: 9998", s.count(0), 9998);
        due("3: the 9999th", s.sample(128, 128), 100100);
        due("3: one more", s.sample(128, 128), -5);
        due("3: out of range comes first", s.sample(128, 256), -2);
        due("3: 9999", s.count(0), 9999);
        due("4: hold, one more", s.hold(128, 128, 1), -5);
        due("4: hold, out of range comes first", s.hold(128, 128, 201), -2);
        due("11: wouldTell, the bound does not matter", s.wouldTell(255, 128), 200100);
        due("12: learnedIn, the bound does not matter", s.learnedIn(140, 128), 13);
        due("14: driftsIn, the bound does not matter", s.driftsIn(140, 128), 13);
        due("3: nothing came", s.count(0), 9999);
    }

    // ---- promise 4

    private static void hold() {
        StickRests s = fresh();
        due("4: the last one is told", s.hold(140, 128, 13), 100100);
        due("4: as many samples", s.count(0), 13);
        due("4: one change", s.count(18), 1);
        due("4: undone as one", s.undo(), 0);
        due("4: all gone", s.count(0), 0);
        due("4: hold 1", s.hold(228, 128, 1), 200100);
        due("4: hold 200", s.hold(228, 128, 200), 200100);
        due("4: 201", s.count(0), 201);
        int[][] wrong = {{0, 0, 0}, {0, 0, -1}, {0, 0, 201}, {-1, 0, 5}, {256, 0, 5}, {0, -1, 5}, {0, 256, 5},
            {0, 0, Integer.MAX_VALUE}, {0, 0, Integer.MIN_VALUE}};
        for (int[] at : wrong) {
            due("4: hold(" + at[0] + ", " + at[1] + ", " + at[2] + ")", s.hold(at[0], at[1], at[2]), -2);
        }
        due("4: nothing came", s.count(0), 201);
        due("4: no change", s.count(18), 2);
    }

    private static void holdBound() {
        StickRests s = full();
        due("4: one too many", s.hold(128, 128, 2), -5);
        due("4: none of them came", s.count(0), 9998);
        due("4: out of range comes first", s.hold(256, 128, 2), -2);
        due("4: the last one", s.hold(128, 128, 1), 100100);
        due("4: 9999", s.count(0), 9999);
    }

    // ---- promise 5

    private static void press() {
        StickRests s = fresh();
        due("5: press(0)", s.press(0), 1);
        due("5: press(7)", s.press(7), 129);
        due("5: press(3)", s.press(3), 137);
        due("5: press(3) again", s.press(3), -5);
        due("5: press(-1)", s.press(-1), -1);
        due("5: press(8)", s.press(8), -1);
        due("5: press(32)", s.press(32), -1);
        due("5: press(MAX)", s.press(Integer.MAX_VALUE), -1);
        due("5: press(MIN)", s.press(Integer.MIN_VALUE), -1);
        due("5: only good ones are changes", s.count(18), 3);
        due("5: down", s.count(6), 137);
        due("5: shakes", s.count(3), 4);
        s.sample(128, 128);
        s.press(3);
        due("5: one that is down shakes nothing anew", s.count(3), 3);
        s.press(4);
        due("5: whatever was left of it", s.count(3), 4);
        s.set(StickRests.SHAKE, 2);
        due("5: a press shakes as it began", s.count(3), 4);
        s.press(5);
        due("5: fewer than were left", s.count(3), 2);
        s.set(StickRests.SHAKE, 20);
        s.press(6);
        due("5: SHAKE 20", s.count(3), 20);
        s.hold(128, 128, 25);
        due("5: never below 0", s.count(3), 0);
    }

    // ---- promise 6

    private static void letUp() {
        StickRests s = fresh();
        due("6: up already", s.letUp(0), -5);
        due("6: letUp(-1)", s.letUp(-1), -1);
        due("6: letUp(8)", s.letUp(8), -1);
        due("6: letUp(33)", s.letUp(33), -1);
        due("6: letUp(MIN)", s.letUp(Integer.MIN_VALUE), -1);
        due("6: no change", s.count(18), 0);
        s.press(1);
        s.press(7);
        s.hold(128, 128, 2);
        due("6: letUp(1)", s.letUp(1), 128);
        due("6: a change", s.count(18), 4);
        due("6: shakes nothing anew, and stops nothing", s.count(3), 2);
        due("6: letUp(1) again", s.letUp(1), -5);
        due("6: letUp(7)", s.letUp(7), 0);
        s.hold(128, 128, 5);
        s.press(7);
        s.hold(128, 128, 5);
        s.letUp(7);
        due("6: shakes nothing", s.count(3), 0);
    }

    // ---- promise 7

    private static void reset() {
        StickRests s = fresh();
        due("7: off by nothing", s.reset(), 0);
        due("7: a change all the same", s.count(18), 1);
        s.hold(132, 124, 2);
        s.sample(200, 128);
        s.sample(200, 128);
        s.press(1);
        due("7: both axes", s.reset(), 15 + 15);
        due("7: rest of x", s.of(0, 0), 2048);
        due("7: rest of y", s.of(1, 0), 2048);
        due("7: zone", s.count(1), 6);
        due("7: still ones", s.count(2), 0);
        due("7: what it tells stays", s.of(0, 1), 169);
        due("7: shaking stays", s.count(3), 4);
        due("7: buttons stay", s.count(6), 2);
        due("7: samples stay", s.count(0), 4);
        s.sample(201, 128);
        due("7: the sample ahead is kept", s.count(2), 1);
        s.reset();
        s.sample(128, 128);
        due("7: let go behind it", s.count(4), 1);
    }
}
