/** Promises 8 to 14: of, direction, count, wouldTell, learnedIn, edge, driftsIn. */
public final class AnswersTest {
    private static final Checks CHECKS = new Checks();

    public static void main(String[] args) {
        of();
        ofWrong();
        directionsInOrder();
        directionRuns();
        directionWrong();
        count();
        countWrong();
        wouldTell();
        learnedIn();
        learnedInOtherWays();
        edge();
        edgeAtTheEnd();
        edgeAndDrift();
        driftsIn();
        nothingChanges();
        CHECKS.end("AnswersTest");
    }

    private static void due(String call, long got, long want) {
        CHECKS.due(call, got, want);
    }

    // ---- promise 8

    private static void of() {
        StickRests s = new StickRests();
        s.sample(255, 74);
        due("8: rest of x", s.of(0, 0), 2048);
        due("8: x tells", s.of(0, 1), 199);
        due("8: y tells", s.of(1, 1), 50);
        due("8: latest x", s.of(0, 2), 255);
        due("8: latest y", s.of(1, 2), 74);
        due("8: x is off", s.of(0, 3), 1127);
        due("8: y is off", s.of(1, 3), 946);
        s.sample(132, 126);
        due("8: rest of x, learned", s.of(0, 0), 2056);
        due("8: rest of y, learned", s.of(1, 0), 2044);
        due("8: x is off the rest of now", s.of(0, 3), 1004);
        due("8: y is off the rest of now", s.of(1, 3), 999);
        s.reset();
        due("8: y is off the rest of now, again", s.of(1, 3), 998);
        s.undo();
        s.undo();
        s.undo();
        due("8: none again", s.of(1, 2), -6);
        due("8: off by none again", s.of(0, 3), -6);
        s.sample(0, 0);
        due("8: latest 0", s.of(0, 2), 0);
        due("8: far off", s.of(0, 3), 872);
    }

    private static void ofWrong() {
        StickRests s = new StickRests();
        int[][] calls = {{-1, 0, -1}, {2, 0, -1}, {2, 9, -1}, {-1, -1, -1}, {0, -1, -2}, {1, 4, -2}, {0, 4, -2},
            {Integer.MAX_VALUE, 0, -1}, {Integer.MIN_VALUE, 0, -1}, {0, Integer.MAX_VALUE, -2}, {1, Integer.MIN_VALUE, -2}};
        for (int[] call : calls) {
            due("8: of(" + call[0] + ", " + call[1] + ")", s.of(call[0], call[1]), call[2]);
        }
    }

    // ---- promise 9

    private static void directionsInOrder() {
        StickRests s = new StickRests();
        int[][] samples = {{0, 255}, {255, 128}, {128, 128}, {128, 0}, {0, 0}, {255, 255}, {128, 255}, {0, 128}, {255, 0}};
        for (int rank = 0; rank < 9; rank++) {
            due("9: not yet", s.direction(rank, 0), -1);
            due("9: so many", s.count(8), rank);
            s.sample(samples[rank][0], samples[rank][1]);
            s.sample(samples[0][0], samples[0][1]);
        }
        int[][] signs = {{0, 2}, {2, 1}, {1, 1}, {1, 0}, {0, 0}, {2, 2}, {1, 2}, {0, 1}, {2, 0}};
        for (int rank = 0; rank < 9; rank++) {
            due("9: sign of x of " + rank, s.direction(rank, 0), signs[rank][0]);
            due("9: sign of y of " + rank, s.direction(rank, 1), signs[rank][1]);
            due("9: samples of " + rank, s.direction(rank, 2), rank == 0 ? 10 : 1);
            due("9: the most of " + rank, s.direction(rank, 3), rank == 0 ? 2 : 1);
        }
        due("9: no more than nine", s.direction(9, 0), -1);
        due("9: nine", s.count(8), 9);
    }

    private static void directionRuns() {
        StickRests s = new StickRests();
        s.hold(200, 128, 3);
        s.press(0);
        s.save(0);
        s.hold(210, 129, 2);
        due("9: one behind the other over other calls", s.direction(0, 3), 5);
        s.sample(128, 128);
        s.hold(200, 128, 4);
        due("9: the most, not the latest", s.direction(0, 3), 5);
        due("9: all of them", s.direction(0, 2), 9);
        s.hold(200, 128, 2);
        due("9: a longer row", s.direction(0, 3), 6);
        due("9: the other one", s.direction(1, 3), 1);
        s.restore(0);
        due("9: restored", s.direction(0, 2), 3);
        due("9: the other one is gone", s.direction(1, 2), -1);
        s.sample(200, 128);
        due("9: the row of the saved state goes on", s.direction(0, 3), 4);
        StickRests far = new StickRests();
        far.set(StickRests.REACH, 127);
        far.sample(135, 128);
        due("9: out of the zone but telling nothing", far.direction(0, 0) * 10 + far.direction(0, 1), 11);
        StickRests cut = new StickRests();
        cut.set(StickRests.CORNER, 100);
        cut.sample(255, 135);
        due("9: the direction of what is left behind the cut", cut.direction(0, 0) * 10 + cut.direction(0, 1), 21);
        StickRests drift = new StickRests();
        drift.hold(140, 128, 13);
        due("9: drifting tells 0, 0", drift.direction(1, 0) * 10 + drift.direction(1, 1), 11);
        due("9: drifting ends the row", drift.direction(0, 3), 12);
    }

    private static void directionWrong() {
        StickRests s = new StickRests();
        due("9: none yet, and a wrong what", s.direction(0, 7), -1);
        s.sample(128, 128);
        int[][] calls = {{-1, 0, -1}, {1, 0, -1}, {1, 4, -1}, {9, 0, -1}, {0, -1, -2}, {0, 4, -2},
            {Integer.MAX_VALUE, 0, -1}, {Integer.MIN_VALUE, 0, -1}, {0, Integer.MAX_VALUE, -2}, {0, Integer.MIN_VALUE, -2}};
        for (int[] call : calls) {
            due("9: direction(" + call[0] + ", " + call[1] + ")", s.direction(call[0], call[1]), call[2]);
        }
        due("9: direction(0, 3)", s.direction(0, 3), 1);
    }

    // ---- promise 10

    private static void count() {
        StickRests s = new StickRests();
        int[] values = {9, 5, 7, 90, 140, 10, 3};
        for (int setting = 0; setting < 7; setting++) {
            s.set(setting, values[setting]);
            due("10: changes that can be undone", s.count(18), Math.min(6, setting + 1));
        }
        for (int setting = 0; setting < 7; setting++) {
            due("10: setting " + setting, s.count(10 + setting), values[setting]);
        }
        s.hold(138, 128, 13);
        s.press(6);
        s.press(1);
        s.sample(138, 128);
        s.sample(228, 128);
        s.sample(138, 129);
        Checks.write(s, "s1,2");
        // Ten at 138 tell something, the eleventh drifts; the next two are in the zone, off by nothing.
        int[] numbers = {16, 5, 0, 0, 1, 1, 66, 11, 2, 2};
        for (int what = 0; what < numbers.length; what++) {
            due("10: count(" + what + ")", s.count(what), numbers[what]);
        }
        due("10: count(17)", s.count(17), 4);
        s.sample(138, 129);
        due("10: still ones", s.count(2), 1);
        s.press(0);
        due("10: shaking", s.count(3), 3);
    }

    private static void countWrong() {
        StickRests s = new StickRests();
        int[] wrong = {-1, 19, 20, Integer.MAX_VALUE, Integer.MIN_VALUE};
        for (int what : wrong) {
            due("10: count(" + what + ")", s.count(what), -2);
        }
    }

    // ---- promise 11

    private static void wouldTell() {
        StickRests s = new StickRests();
        due("11: in the zone", s.wouldTell(134, 122), 100100);
        due("11: beyond", s.wouldTell(135, 121), 101099);
        due("11: corner", s.wouldTell(255, 182), 199150);
        s.hold(140, 128, 12);
        due("11: would drift", s.wouldTell(140, 128), 100100);
        due("11: one off would drift", s.wouldTell(141, 129), 100100);
        due("11: two off would not", s.wouldTell(142, 128), 108100);
        s.press(0);
        due("11: none drifts while it shakes", s.wouldTell(140, 128), 106100);
        int[][] wrong = {{-1, 0}, {256, 0}, {0, -1}, {0, 256}, {Integer.MIN_VALUE, 0}, {0, Integer.MAX_VALUE}};
        for (int[] at : wrong) {
            due("11: wouldTell(" + at[0] + ", " + at[1] + ")", s.wouldTell(at[0], at[1]), -2);
            due("12: learnedIn(" + at[0] + ", " + at[1] + ")", s.learnedIn(at[0], at[1]), -2);
            due("14: driftsIn(" + at[0] + ", " + at[1] + ")", s.driftsIn(at[0], at[1]), -2);
        }
    }

    // ---- promise 12

    private static void learnedIn() {
        StickRests s = new StickRests();
        due("12: off by nothing", s.learnedIn(128, 128), 0);
        // 2046 after one sample, and 2046 / 16 is 127.
        due("12: one below", s.learnedIn(127, 128), 1);
        // 2044, 2041, 2038, 2036, 2034, 2032, 2030
        due("12: two below", s.learnedIn(126, 128), 7);
        // 2042, 2037, 2033, 2029, 2026, 2023, 2021, 2019, 2017, 2015
        due("12: three below, on y", s.learnedIn(128, 125), 10);
        due("12: both axes", s.learnedIn(127, 126), 7);
        // The last 7 sixteenths are never learned with SLOW 8.
        due("12: one above", s.learnedIn(129, 128), -6);
        due("12: one axis is not enough", s.learnedIn(127, 129), -6);
        due("12: out of reach", s.learnedIn(200, 128), -6);
        due("12: far out", s.learnedIn(255, 0), -6);
        s.set(StickRests.SLOW, 1);
        due("12: at once", s.learnedIn(129, 134), 1);
        s.sample(130, 131);
        due("12: learned", s.learnedIn(130, 131), 0);
    }

    private static void learnedInOtherWays() {
        StickRests s = new StickRests();
        due("12: by drifting", s.learnedIn(140, 120), 13);
        s.hold(140, 120, 5);
        due("12: by drifting, sooner", s.learnedIn(140, 120), 8);
        due("12: the sample ahead is one off", s.learnedIn(141, 119), 8);
        s.press(0);
        due("12: behind the shaking", s.learnedIn(127, 128), 5);
        due("12: off by nothing while it shakes", s.learnedIn(128, 128), 0);
        due("12: drifting waits for no shaking that is over", s.learnedIn(140, 120), 8);
    }

    // ---- promise 13

    private static void edge() {
        StickRests s = new StickRests();
        for (int axis = 0; axis < 2; axis++) {
            due("13: edge(" + axis + ", 0)", s.edge(axis, 0), 7);
            due("13: edge(" + axis + ", 1)", s.edge(axis, 1), 7);
        }
        s.set(StickRests.REACH, 127);
        due("13: the first one beyond tells nothing", s.edge(0, 1), 8);
        s.set(StickRests.ZONE, 30);
        due("13: a wide zone", s.edge(1, 0), 31);
        s.set(StickRests.ZONE, 1);
        // 2 * 100 / 126 is 1.
        due("13: a narrow zone", s.edge(1, 1), 3);
        int[][] wrong = {{-1, 0, -1}, {2, 1, -1}, {2, 2, -1}, {0, -1, -2}, {1, 2, -2}, {Integer.MAX_VALUE, 0, -1},
            {Integer.MIN_VALUE, 0, -1}, {0, Integer.MAX_VALUE, -2}, {0, Integer.MIN_VALUE, -2}};
        for (int[] call : wrong) {
            due("13: edge(" + call[0] + ", " + call[1] + ")", s.edge(call[0], call[1]), call[2]);
        }
    }

    private static void edgeAtTheEnd() {
        StickRests s = new StickRests();
        s.set(StickRests.STILL, 2);
        // Each three samples drift by 14, up to 240 and to 16; then to 248 and to 8.
        for (int step = 1; step <= 8; step++) {
            s.hold(128 + 14 * step, 128 - 14 * step, 3);
        }
        s.hold(248, 8, 3);
        due("13: rest of x", s.of(0, 0), 16 * 248);
        due("13: rest of y", s.of(1, 0), 16 * 8);
        due("13: just the end of the axis", s.edge(0, 1), 7);
        due("13: one before the end", s.edge(1, 0), 7);
        s.set(StickRests.ZONE, 7);
        due("13: none up to 255", s.edge(0, 1), -6);
        due("13: down from there", s.edge(0, 0), 8);
        due("13: just 0", s.edge(1, 0), 8);
        due("13: up from there", s.edge(1, 1), 8);
        s.set(StickRests.ZONE, 8);
        due("13: none down to 0", s.edge(1, 0), -6);
    }

    private static void edgeAndDrift() {
        StickRests s = new StickRests();
        s.hold(135, 128, 12);
        due("13: 135 and 136 would drift", s.edge(0, 1), 9);
        due("13: 121 would not", s.edge(0, 0), 7);
        due("13: on y none would", s.edge(1, 1), 7);
        s.press(3);
        due("13: none drifts while it shakes", s.edge(0, 1), 7);
        StickRests y = new StickRests();
        y.hold(129, 121, 12);
        due("13: the other axis is still, too", y.edge(1, 0), 9);
        for (int besides = 127; besides <= 129; besides++) {
            StickRests x = new StickRests();
            x.hold(135, besides, 12);
            due("13: off by nothing on y, " + besides, x.edge(0, 1), 9);
            y = new StickRests();
            y.hold(besides, 135, 12);
            due("13: off by nothing on x, " + besides, y.edge(1, 1), 9);
        }
    }

    // ---- promise 14

    private static void driftsIn() {
        StickRests s = new StickRests();
        due("14: zone and 1", s.driftsIn(135, 128), 13);
        due("14: zone and 8", s.driftsIn(142, 114), 13);
        due("14: zone and 9", s.driftsIn(143, 128), -6);
        due("14: in the zone", s.driftsIn(134, 128), -6);
        s.hold(140, 128, 5);
        due("14: still already", s.driftsIn(139, 129), 8);
        due("14: not still", s.driftsIn(138, 128), 13);
        s.hold(140, 128, 7);
        due("14: the next one", s.driftsIn(140, 128), 1);
        s.sample(140, 128);
        due("14: drifted", s.driftsIn(140, 128), -6);
        s.set(StickRests.STILL, 60);
        due("14: STILL 60", s.driftsIn(150, 128), 61);
        s.set(StickRests.STILL, 2);
        due("14: STILL 2", s.driftsIn(150, 128), 3);
        s.press(0);
        due("14: behind the shaking", s.driftsIn(150, 128), 5);
        s.set(StickRests.SHAKE, 20);
        s.press(1);
        due("14: behind much shaking", s.driftsIn(150, 128), 21);
        s = new StickRests();
        s.set(StickRests.WIDE, 0);
        s.set(StickRests.SLOW, 64);
        due("14: held at the edge of the zone", s.driftsIn(134, 128), -6);
    }

    private static String all(StickRests s) {
        StringBuilder all = new StringBuilder();
        for (int what = 0; what < 19; what++) {
            all.append(s.count(what)).append(' ');
        }
        for (int what = 0; what < 4; what++) {
            all.append(s.of(0, what)).append(' ').append(s.of(1, what)).append(' ');
        }
        for (int rank = 0; rank < s.count(8); rank++) {
            for (int what = 0; what < 4; what++) {
                all.append(s.direction(rank, what)).append(' ');
            }
        }
        return all.toString();
    }

    private static void nothingChanges() {
        StickRests s = new StickRests();
        Checks.write(s, "s1,2");
        s.hold(140, 128, 12);
        s.press(0);
        s.sample(131, 130);
        String before = all(s);
        s.wouldTell(255, 0);
        due("11: nothing changes", all(s).equals(before) ? 1 : 0, 1);
        s.learnedIn(126, 128);
        due("12: nothing changes", all(s).equals(before) ? 1 : 0, 1);
        s.edge(0, 1);
        due("13: nothing changes", all(s).equals(before) ? 1 : 0, 1);
        s.driftsIn(140, 128);
        due("14: nothing changes", all(s).equals(before) ? 1 : 0, 1);
        s.fault();
        due("17: nothing changes", all(s).equals(before) ? 1 : 0, 1);
        s.save(1);
        due("20: nothing changes", all(s).equals(before) ? 1 : 0, 1);
    }
}
