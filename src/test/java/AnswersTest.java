/** Promises 8 to 14: of, direction, count, wouldTell, learnedIn, edge, driftsIn. */
public final class AnswersTest {
    private static final Checks CHECKS = new Checks();

    private static final int[][] OUTSIDE = {{-1, 0}, {256, 0}, {0, -1}, {0, 256}, {-1, 256}, {Integer.MIN_VALUE, 5},
        {Integer.MAX_VALUE, 5}, {5, Integer.MAX_VALUE}, {5, Integer.MIN_VALUE}};

    public static void main(String[] args) {
        sentences().test("AnswersTest");
    }

    static Sentences sentences() {
        Sentences doc = new Sentences(CHECKS);
        of(doc);
        direction(doc);
        count(doc);
        wouldTell(doc);
        learnedIn(doc);
        edge(doc);
        driftsIn(doc);
        return doc;
    }

    private static void due(String call, long got, long want) {
        CHECKS.due(call, got, want);
    }

    // ---- promise 8

    private static void of(Sentences doc) {
        doc.part("Promise 8: of");
        doc.says("Returns something about an axis. - `axis`: 0 for x, 1 for y", AnswersTest::ofAxes)
            .brokenBy("return axis == 0 ? stick.aboutX(what) : stick.aboutY(what);",
                "return axis == 1 ? stick.aboutX(what) : stick.aboutY(what);")
            .brokenBy("return about(what, restY, tellY, latestY);", "return about(what, restX, tellY, latestY);")
            .brokenBy("return about(what, restY, tellY, latestY);", "return about(what, restY, tellX, latestY);")
            .brokenBy("return about(what, restY, tellY, latestY);", "return about(what, restY, tellY, latestX);");
        doc.says("- `what`: 0 its rest in sixteenths,", AnswersTest::ofRest)
            .brokenBy("case 0: return rest;", "case 0: return rest / 16;")
            .brokenBy("case 0: return rest;", "case 0: return samples == 0 ? NONE : rest;");
        doc.says("1 what it tells, and 100,", AnswersTest::ofTells)
            .brokenBy("case 1: return tells + FULL;", "case 1: return tells;")
            .brokenBy("case 1: return tells + FULL;", "case 1: return samples == 0 ? NONE : tells + FULL;");
        doc.says("2 its latest sample (NONE),", AnswersTest::ofLatest)
            .brokenBy("case 2: return samples == 0 ? NONE : latest;", "case 2: return latest;")
            .brokenBy("case 2: return samples == 0 ? NONE : latest;", "case 2: return latest == 0 ? NONE : latest;")
            .brokenBy("case 2: return samples == 0 ? NONE : latest;", "case 2: return samples <= 1 ? NONE : latest;");
        doc.says("3 by how much that is off by the rest of now, and 1000 (NONE without a sample)", AnswersTest::ofOff)
            .brokenBy("case 3: return samples == 0 ? NONE :", "case 3: return")
            .brokenBy("latest - rest / 16 + SIGNED", "Math.abs(latest - rest / 16) + SIGNED")
            .brokenBy("latest - rest / 16 + SIGNED", "rest / 16 - latest + SIGNED")
            .brokenBy("latest - rest / 16 + SIGNED", "(16 * latest - rest) / 16 + SIGNED")
            .brokenBy("latest - rest / 16 + SIGNED", "latest - MIDDLE / 16 + SIGNED");
        doc.says("Returns the number; NO_SUCH if there is no such axis;", AnswersTest::ofNoSuchAxis)
            .brokenBy("if (axis != 0 && axis != 1) { return NO_SUCH; } return axis == 0",
                "if (axis < 0) { return NO_SUCH; } return axis == 0")
            .brokenBy("if (axis != 0 && axis != 1) { return NO_SUCH; } return axis == 0",
                "if (axis > 1) { return NO_SUCH; } return axis == 0")
            .brokenBy("if (axis != 0 && axis != 1) { return NO_SUCH; } return axis == 0",
                "if (axis != 0 && axis != 1) { return BAD_VALUE; } return axis == 0");
        doc.says("BAD_VALUE if what is out of range.", AnswersTest::ofOutOfRange)
            .brokenBy("default: return BAD_VALUE; } } int number", "default: return NO_SUCH; } } int number")
            .brokenBy("default: return BAD_VALUE; } } int number",
                "case 4: return latest; default: return BAD_VALUE; } } int number")
            .brokenBy("default: return BAD_VALUE; } } int number",
                "case -1: return rest; default: return BAD_VALUE; } } int number");
    }

    private static void ofAxes() {
        StickRests s = Sticks.restingAt(140, 100);
        s.sample(250, 80);
        int[] ofX = {2240, 200, 250, 1110};
        int[] ofY = {1600, 86, 80, 980};
        for (int what = 0; what < 4; what++) {
            due("of(0, " + what + ")", s.of(0, what), ofX[what]);
            due("of(1, " + what + ")", s.of(1, what), ofY[what]);
        }
    }

    private static void ofRest() {
        StickRests s = new StickRests();
        due("at first", s.of(0, 0), 2048);
        s.sample(132, 126);
        due("of x", s.of(0, 0), 2056);
        due("of y", s.of(1, 0), 2044);
    }

    private static void ofTells() {
        StickRests s = new StickRests();
        due("at first", s.of(0, 1), 100);
        s.sample(255, 75);
        due("of x", s.of(0, 1), 200);
        due("of y", s.of(1, 1), 50);
        s.sample(0, 128);
        due("of x, the least", s.of(0, 1), 0);
        due("of y, nothing", s.of(1, 1), 100);
    }

    private static void ofLatest() {
        StickRests s = new StickRests();
        due("without a sample", s.of(0, 2), -6);
        due("without a sample", s.of(1, 2), -6);
        s.sample(0, 255);
        due("of x", s.of(0, 2), 0);
        due("of y", s.of(1, 2), 255);
        s.sample(255, 0);
        due("of x", s.of(0, 2), 255);
        due("of y", s.of(1, 2), 0);
        s.undo();
        s.undo();
        due("without a sample again", s.of(0, 2), -6);
    }

    private static void ofOff() {
        StickRests s = new StickRests();
        due("without a sample", s.of(0, 3), -6);
        due("without a sample", s.of(1, 3), -6);
        s.sample(0, 255);
        due("of x", s.of(0, 3), 872);
        due("of y", s.of(1, 3), 1127);
        s.sample(128, 128);
        due("nothing", s.of(0, 3), 1000);
        s = Sticks.fresh(Sticks.SLOW, 1);
        s.sample(132, 126);
        due("by the rest of now, not of then", s.of(0, 3), 1000);
        s.reset();
        due("by the rest of now, when it was put to the middle", s.of(0, 3), 1004);
        due("and on y", s.of(1, 3), 998);
        s = new StickRests();
        s.sample(131, 128);
        due("the rest is 2054", s.of(0, 0), 2054);
        due("2054 / 16 is 128", s.of(0, 3), 1003);
    }

    private static void ofNoSuchAxis() {
        StickRests s = new StickRests();
        for (int axis : new int[] {-1, 2, 3, Integer.MAX_VALUE, Integer.MIN_VALUE}) {
            for (int what = 0; what < 4; what++) {
                due("of(" + axis + ", " + what + ")", s.of(axis, what), -1);
            }
        }
        due("of(0, 0)", s.of(0, 0), 2048);
        due("of(1, 0)", s.of(1, 0), 2048);
    }

    private static void ofOutOfRange() {
        StickRests s = new StickRests();
        s.sample(1, 1);
        for (int what : new int[] {-1, 4, 5, Integer.MAX_VALUE, Integer.MIN_VALUE}) {
            due("of(0, " + what + ")", s.of(0, what), -2);
            due("of(1, " + what + ")", s.of(1, what), -2);
        }
        due("of(0, 3)", s.of(0, 3), 873);
    }

    // ---- promise 9

    private static void direction(Sentences doc) {
        doc.part("Promise 9: direction");
        doc.says("Returns something about a direction that was told, in the order in which each was told for the first time",
                AnswersTest::directionOrder)
            .brokenBy("int told = byRank[rank];", "int told = rank;")
            .brokenBy("byRank[unlike] = told; unlike++;", "unlike++; byRank[DIRECTIONS - unlike] = told;")
            .brokenBy("if (samplesIn[told] == 0 && unlike < DIRECTIONS)", "if (told != latest && unlike < DIRECTIONS)");
        doc.says("(the direction of 0, 0, too).", AnswersTest::directionOfNothing)
            .brokenBy("void note(int signX, int signY) {",
                "void note(int signX, int signY) { if (signX == 0 && signY == 0) { return; }");
        doc.says("- `rank`: 0 for the first one", AnswersTest::directionRank)
            .brokenBy("return stick.directions.about(rank, what);", "return stick.directions.about(rank - 1, what);")
            .brokenBy("return stick.directions.about(rank, what);",
                "return stick.directions.about(stick.directions.unlike - 1 - rank, what);");
        doc.says("- `what`: 0 its sign of x and 1,", AnswersTest::directionSignOfX)
            .brokenBy("case 0: return told / 3;", "case 0: return told % 3;")
            .brokenBy("case 0: return told / 3;", "case 0: return told / 3 - 1;");
        doc.says("1 its sign of y and 1,", AnswersTest::directionSignOfY)
            .brokenBy("case 1: return told % 3;", "case 1: return told / 3;")
            .brokenBy("case 1: return told % 3;", "case 1: return told % 3 - 1;");
        doc.says("2 samples in which it was told,", AnswersTest::directionSamples)
            .brokenBy("case 2: return samplesIn[told];", "case 2: return longest[told];")
            .brokenBy("samplesIn[told]++;", "samplesIn[told] = run;")
            .brokenBy("directions.note(", "if (tellsSomething() || drifted == 0) directions.note(");
        doc.says("3 the most of these one behind the other", AnswersTest::directionMost)
            .brokenBy("longest[told] = Math.max(longest[told], run);", "longest[told] = run;")
            .brokenBy("longest[told] = Math.max(longest[told], run);", "longest[told] = samplesIn[told];")
            .brokenBy("latest = told;", "if (signX != 0 || signY != 0) { latest = told; }")
            .brokenBy("run = other.run;", "");
        doc.says("Returns the number; NO_SUCH if there are not so many;", AnswersTest::directionNotSoMany)
            .brokenBy("if (rank < 0 || rank >= unlike || rank >= DIRECTIONS) {", "if (rank < 0 || rank >= DIRECTIONS) {")
            .brokenBy("if (rank < 0 || rank >= unlike || rank >= DIRECTIONS) {",
                "if (rank >= unlike || rank >= DIRECTIONS) {")
            .brokenBy("if (rank < 0 || rank >= unlike || rank >= DIRECTIONS) {",
                "if (rank < 0 || rank >= unlike || rank >= DIRECTIONS - 1) {")
            .brokenBy("if (rank < 0 || rank >= unlike || rank >= DIRECTIONS) { return NO_SUCH;",
                "if (rank < 0 || rank >= unlike || rank >= DIRECTIONS) { return BAD_VALUE;");
        doc.says("BAD_VALUE if what is out of range.", AnswersTest::directionOutOfRange)
            .brokenBy("case 3: return longest[told]; default: return BAD_VALUE;", "default: return longest[told];")
            .brokenBy("case 3: return longest[told]; default: return BAD_VALUE;",
                "case 3: return longest[told]; case 4: return run; default: return BAD_VALUE;")
            .brokenBy("case 3: return longest[told]; default: return BAD_VALUE;",
                "case 3: return longest[told]; default: return NO_SUCH;");
    }

    private static final int[][] NINE = {{0, 255}, {255, 128}, {128, 128}, {128, 0}, {0, 0}, {255, 255}, {128, 255}, {0, 128}, {255, 0}};
    private static final int[][] NINE_SIGNS = {{0, 2}, {2, 1}, {1, 1}, {1, 0}, {0, 0}, {2, 2}, {1, 2}, {0, 1}, {2, 0}};

    /** All nine directions are told, and behind each one the first one again. */
    private static StickRests withNineDirections() {
        StickRests s = new StickRests();
        for (int[] at : NINE) {
            s.sample(at[0], at[1]);
            s.sample(NINE[0][0], NINE[0][1]);
        }
        return s;
    }

    private static void directionOrder() {
        StickRests s = withNineDirections();
        for (int rank = 0; rank < 9; rank++) {
            due("sign of x of " + rank, s.direction(rank, 0), NINE_SIGNS[rank][0]);
            due("sign of y of " + rank, s.direction(rank, 1), NINE_SIGNS[rank][1]);
        }
    }

    private static void directionOfNothing() {
        StickRests s = new StickRests();
        s.sample(128, 128);
        due("sign of x", s.direction(0, 0), 1);
        due("sign of y", s.direction(0, 1), 1);
        due("samples", s.direction(0, 2), 1);
        s.sample(255, 128);
        s.hold(128, 128, 2);
        due("samples", s.direction(0, 2), 3);
        due("one behind the other", s.direction(0, 3), 2);
        due("the other one", s.direction(1, 0), 2);
    }

    private static void directionRank() {
        StickRests s = new StickRests();
        s.sample(255, 128);
        s.sample(0, 128);
        s.sample(128, 0);
        due("direction(0, 0)", s.direction(0, 0), 2);
        due("direction(1, 0)", s.direction(1, 0), 0);
        due("direction(2, 0)", s.direction(2, 0), 1);
    }

    private static void directionSignOfX() {
        due("higher", signsOf(255, 100) / 10, 2);
        due("lower", signsOf(0, 100) / 10, 0);
        due("nothing", signsOf(128, 100) / 10, 1);
    }

    private static void directionSignOfY() {
        due("higher", signsOf(100, 255) % 10, 2);
        due("lower", signsOf(100, 0) % 10, 0);
        due("nothing", signsOf(100, 128) % 10, 1);
    }

    private static int signsOf(int x, int y) {
        StickRests s = new StickRests();
        s.sample(x, y);
        return 10 * s.direction(0, 0) + s.direction(0, 1);
    }

    private static void directionSamples() {
        StickRests s = withNineDirections();
        for (int rank = 0; rank < 9; rank++) {
            due("samples of " + rank, s.direction(rank, 2), rank == 0 ? 10 : 1);
        }
        s = new StickRests();
        s.hold(140, 128, 13);
        due("twelve told the first one", s.direction(0, 2), 12);
        due("the one that drifted told the direction of 0, 0", s.direction(1, 2), 1);
    }

    private static void directionMost() {
        StickRests s = withNineDirections();
        for (int rank = 0; rank < 9; rank++) {
            due("of nine, " + rank, s.direction(rank, 3), rank == 0 ? 2 : 1);
        }
        s = new StickRests();
        s.hold(200, 128, 3);
        s.press(0);
        s.save(0);
        s.hold(210, 129, 2);
        due("over other calls", s.direction(0, 3), 5);
        s.sample(128, 128);
        s.hold(200, 128, 4);
        due("the most, not the latest", s.direction(0, 3), 5);
        s.hold(200, 128, 2);
        due("one more than the most", s.direction(0, 3), 6);
        s.restore(0);
        s.sample(200, 128);
        due("one more than those that were saved", s.direction(0, 3), 4);
    }

    private static void directionNotSoMany() {
        StickRests s = new StickRests();
        for (int many = 0; many < 9; many++) {
            due("direction(" + many + ", 0) of " + many, s.direction(many, 0), -1);
            s.sample(NINE[many][0], NINE[many][1]);
            due("direction(" + many + ", 0) of " + (many + 1), s.direction(many, 0), NINE_SIGNS[many][0]);
        }
        for (int rank : new int[] {-1, 9, 10, Integer.MAX_VALUE, Integer.MIN_VALUE}) {
            due("direction(" + rank + ", 0) of 9", s.direction(rank, 0), -1);
        }
    }

    private static void directionOutOfRange() {
        StickRests s = new StickRests();
        s.hold(128, 128, 3);
        for (int what : new int[] {-1, 4, 5, Integer.MAX_VALUE, Integer.MIN_VALUE}) {
            due("direction(0, " + what + ")", s.direction(0, what), -2);
        }
        due("direction(0, 3)", s.direction(0, 3), 3);
    }

    // ---- promise 10

    private static void count(Sentences doc) {
        doc.part("Promise 10: count");
        doc.says("Returns a number. - `what`: 0 samples so far,", AnswersTest::countSamples)
            .brokenBy("case 0: return samples;", "case 0: return samples + 1;")
            .brokenBy("case 0: return samples;", "case 0: return tellingSamples;");
        doc.says("1 the zone,", AnswersTest::countZone)
            .brokenBy("case 1: return zone;", "case 1: return settings[ZONE];");
        doc.says("2 the count of still samples,", AnswersTest::countStill)
            .brokenBy("case 2: return still;", "case 2: return Math.min(still, settings[STILL]);")
            .brokenBy("case 2: return still;", "case 2: return still + 1;");
        doc.says("3 samples for which a press shakes yet,", AnswersTest::countShaking)
            .brokenBy("case 3: return shaking;", "case 3: return settings[SHAKE];")
            .brokenBy("case 3: return shaking;", "case 3: return down == 0 ? 0 : shaking;");
        doc.says("4 how often the stick was let go,", AnswersTest::countLetGo)
            .brokenBy("case 4: return letGo;", "case 4: return Math.min(1, letGo);")
            .brokenBy("case 4: return letGo;", "case 4: return letGo + drifted;");
        doc.says("5 how often it has drifted,", AnswersTest::countDrifted)
            .brokenBy("case 5: return drifted;", "case 5: return letGo;")
            .brokenBy("case 5: return drifted;", "case 5: return Math.min(1, drifted);");
        doc.says("6 buttons that are down, as a set,", AnswersTest::countDown)
            .brokenBy("case 6: return down;", "case 6: return Integer.bitCount(down);");
        doc.says("7 samples in which it told something,", AnswersTest::countTelling)
            .brokenBy("if (tellsSomething()) { tellingSamples++; }", "tellingSamples++;")
            .brokenBy("if (tellsSomething()) { tellingSamples++; }", "if (tellX != 0) { tellingSamples++; }")
            .brokenBy("if (tellsSomething()) { tellingSamples++; }", "if (tellX != 0 && tellY != 0) { tellingSamples++; }")
            .brokenBy("tell(telling);", "tell(telling); if (drifts) { tellingSamples++; }");
        doc.says("8 unlike directions so far,", AnswersTest::countDirections)
            .brokenBy("case 8: return directions.unlike;", "case 8: return Math.min(8, directions.unlike);")
            .brokenBy("if (samplesIn[told] == 0 && unlike < DIRECTIONS)", "if (told != latest && unlike < DIRECTIONS)");
        doc.says("9 samples that were in the zone while a press shook,", AnswersTest::countShaken)
            .brokenBy("if (shaking > 0) { shaking--; }", "if (shaking > 0) { shaking--; if (!rests) { shakenInZone++; } }")
            .brokenBy("if (shaking > 0) { shakenInZone++; return; }", "if (shaking > 0) { return; } shakenInZone++;")
            .brokenBy("shakenInZone++; return;", "shakenInZone = 1; return;");
        doc.says("10 to 16 the settings,", AnswersTest::countSettings)
            .brokenBy("return settings[what - 10];", "return FIRST[what - 10];")
            .brokenBy("if (what >= 10 && what - 10 < SETTINGS)", "if (what > 10 && what - 10 < SETTINGS)")
            .brokenBy("if (what >= 10 && what - 10 < SETTINGS)", "if (what >= 10 && what - 10 < SETTINGS - 1)");
        doc.says("17 the length of the pad,", AnswersTest::countPad)
            .brokenBy("case 17: return pad.length;", "case 17: return Math.min(79, pad.length);")
            .brokenBy("case 17: return pad.length;", "case 17: return pad.length == 0 ? NONE : pad.length;");
        doc.says("18 how many changes can be undone", AnswersTest::countChanges)
            .brokenBy("case 18: return history.size;", "case 18: return Math.min(5, history.size);")
            .brokenBy("HISTORY_SIZE = 6", "HISTORY_SIZE = 7")
            .brokenBy("case 18: return history.size;", "case 18: return history.size == 0 ? NONE : history.size;");
        doc.says("Returns the number; BAD_VALUE if what is out of range.", AnswersTest::countOutOfRange)
            .brokenBy("default: return stick.number(what);", "case 19: return 0; default: return stick.number(what);")
            .brokenBy("default: return stick.number(what);", "case -1: return 0; default: return stick.number(what);")
            .brokenBy("if (what >= 10 && what - 10 < SETTINGS)", "if (what >= 10)")
            .brokenBy("default: return stick.number(what);", "default: return what > 18 ? NO_SUCH : stick.number(what);");
    }

    private static void countSamples() {
        StickRests s = new StickRests();
        due("none", s.count(0), 0);
        s.sample(128, 128);
        due("one", s.count(0), 1);
        s.hold(0, 0, 200);
        due("201", s.count(0), 201);
        due("the most", Sticks.sampled(9999).count(0), 9999);
    }

    private static void countZone() {
        StickRests s = new StickRests();
        due("at first", s.count(1), 6);
        s.sample(132, 128);
        due("wider", s.count(1), 7);
        due("the widest", Sticks.widest().count(1), 50);
    }

    private static void countStill() {
        StickRests s = new StickRests();
        due("at first", s.count(2), 0);
        s.sample(200, 128);
        due("one", s.count(2), 0);
        s.hold(200, 128, 99);
        due("a hundred", s.count(2), 99);
    }

    private static void countShaking() {
        StickRests s = new StickRests();
        due("none", s.count(3), 0);
        s.press(0);
        s.letUp(0);
        due("four", s.count(3), 4);
        s.sample(128, 128);
        due("three", s.count(3), 3);
        s.hold(128, 128, 9);
        due("none again", s.count(3), 0);
    }

    private static void countLetGo() {
        StickRests s = new StickRests();
        for (int i = 0; i < 4; i++) {
            due("let go " + i, s.count(4), i);
            s.sample(200, 128);
            s.sample(128, 128);
        }
        s.hold(140, 128, 13);
        due("drifting is none", s.count(4), 4);
    }

    private static void countDrifted() {
        StickRests s = new StickRests();
        due("none", s.count(5), 0);
        s.hold(140, 128, 13);
        due("one", s.count(5), 1);
        s.sample(255, 128);
        s.sample(140, 128);
        due("letting go is none", s.count(5), 1);
        s.hold(152, 128, 13);
        due("two", s.count(5), 2);
    }

    private static void countDown() {
        StickRests s = new StickRests();
        due("none", s.count(6), 0);
        s.press(7);
        s.press(0);
        due("0 and 7", s.count(6), 129);
        s.letUp(7);
        due("0", s.count(6), 1);
    }

    private static void countTelling() {
        StickRests s = new StickRests();
        int[][] samples = {{128, 128}, {131, 131}, {135, 128}, {128, 121}, {0, 0}, {128, 128}, {255, 128}};
        int[] told = {0, 0, 1, 2, 3, 3, 4};
        for (int i = 0; i < samples.length; i++) {
            s.sample(samples[i][0], samples[i][1]);
            due("told behind sample " + i, s.count(7), told[i]);
        }
        s = new StickRests();
        s.hold(140, 128, 13);
        due("drifting tells nothing", s.count(7), 12);
        s = Sticks.fresh(Sticks.REACH, 127);
        s.sample(135, 128);
        due("beyond the zone, but nothing", s.count(7), 0);
    }

    private static void countDirections() {
        StickRests s = new StickRests();
        for (int i = 0; i < 9; i++) {
            due("unlike ones", s.count(8), i);
            s.sample(NINE[i][0], NINE[i][1]);
            s.sample(NINE[0][0], NINE[0][1]);
        }
        due("all of them", s.count(8), 9);
    }

    private static void countShaken() {
        StickRests s = new StickRests();
        s.hold(128, 128, 2);
        due("none shook", s.count(9), 0);
        s.press(0);
        s.sample(134, 122);
        due("one", s.count(9), 1);
        s.hold(200, 128, 2);
        due("not in the zone", s.count(9), 1);
        s.sample(128, 128);
        due("the last one that shook", s.count(9), 2);
        s.sample(128, 128);
        due("none shakes", s.count(9), 2);
    }

    private static void countSettings() {
        StickRests s = new StickRests();
        int[] values = {9, 5, 7, 90, 140, 10, 3};
        for (int setting = 0; setting < 7; setting++) {
            s.set(setting, values[setting]);
        }
        for (int setting = 0; setting < 7; setting++) {
            due("count(" + (10 + setting) + ")", s.count(10 + setting), values[setting]);
        }
    }

    private static void countPad() {
        StickRests s = new StickRests();
        due("none", s.count(17), 0);
        Sticks.write(s, "s1,2;b");
        due("six", s.count(17), 6);
        for (int i = 0; i < 74; i++) {
            s.put('x');
        }
        due("the most", s.count(17), 80);
    }

    private static void countChanges() {
        StickRests s = new StickRests();
        for (int i = 0; i < 9; i++) {
            due("behind " + i, s.count(18), Math.min(6, i));
            s.sample(128, 128);
        }
        s.undo();
        due("one undone", s.count(18), 5);
    }

    private static void countOutOfRange() {
        StickRests s = new StickRests();
        s.sample(1, 1);
        for (int what : new int[] {-1, 19, 20, Integer.MAX_VALUE, Integer.MIN_VALUE}) {
            due("count(" + what + ")", s.count(what), -2);
        }
        due("count(0)", s.count(0), 1);
        due("count(18)", s.count(18), 1);
    }

    // ---- promise 11

    private static void wouldTell(Sentences doc) {
        doc.part("Promise 11: wouldTell");
        doc.says("Returns what a sample would tell now.", AnswersTest::wouldTellNow)
            .brokenBy("|| wouldDrift(x, y)) {", ") {")
            .brokenBy("? stick.tellingAt(x, y) : BAD_VALUE", "? trial.tellingAt(x, y) : BAD_VALUE");
        doc.says("Returns as sample();", AnswersTest::wouldTellAsSample)
            .brokenBy("? stick.tellingAt(x, y) : BAD_VALUE", "? stick.tellingAt(y, x) : BAD_VALUE")
            .brokenBy("? stick.tellingAt(x, y) : BAD_VALUE", "? stick.tellingAt(x, y) - packed(0, 0) : BAD_VALUE");
        doc.says("BAD_VALUE if x or y is out of range.", AnswersTest::wouldTellOutOfRange)
            .brokenBy("return isSample(x, y) ? stick", "return isSample(x, y & 255) ? stick")
            .brokenBy("return isSample(x, y) ? stick", "return isSample(x & 255, y) ? stick")
            .brokenBy("return isSample(x, y) ? stick.tellingAt(x, y) : BAD_VALUE;",
                "return isSample(x, y) ? stick.tellingAt(x, y) : NONE;");
    }

    private static void wouldTellNow() {
        StickRests s = new StickRests();
        due("in the zone", s.wouldTell(134, 122), 100100);
        due("out of it", s.wouldTell(135, 121), 101099);
        s.hold(140, 128, 12);
        due("it would drift", s.wouldTell(140, 128), 100100);
        due("it would drift, one off", s.wouldTell(141, 129), 100100);
        due("two off it would not", s.wouldTell(142, 128), 108100);
        s.press(0);
        due("nor while a press shakes", s.wouldTell(140, 128), 106100);
        s = Sticks.restingAt(140, 100);
        due("7 off the rest of now", s.wouldTell(147, 93), 101099);
    }

    private static void wouldTellAsSample() {
        StickRests s = new StickRests();
        due("right and down", s.wouldTell(255, 0), 175025);
        due("right and a little up", s.wouldTell(255, 135), 200101);
        due("left", s.wouldTell(0, 128), 100);
        for (int x = 0; x < 256; x += 15) {
            for (int y = 0; y < 256; y += 15) {
                due("as sample(" + x + ", " + y + ")", s.wouldTell(x, y), new StickRests().sample(x, y));
            }
        }
    }

    private static void wouldTellOutOfRange() {
        StickRests s = new StickRests();
        for (int[] at : OUTSIDE) {
            due("wouldTell(" + at[0] + ", " + at[1] + ")", s.wouldTell(at[0], at[1]), -2);
        }
        due("wouldTell(0, 255)", s.wouldTell(0, 255), 25175);
    }

    // ---- promise 12

    private static void learnedIn(Sentences doc) {
        doc.part("Promise 12: learnedIn");
        doc.says("Tells behind how many samples, all the same, 0 or more,", AnswersTest::learnedInMany)
            .brokenBy("for (int taken = 0; taken <= MOST_LEARNING", "for (int taken = 1; taken <= MOST_LEARNING")
            .brokenBy("if (trial.isOffByNothing(x, y)) { return taken; } trial.take(x, y);",
                "trial.take(x, y); if (trial.isOffByNothing(x, y)) { return taken; }")
            .brokenBy("return taken; } trial.take(x, y);",
                "return taken; } trial.take(x, y); if (taken == 0) { trial.latestX = -9; }");
        doc.says("the rest is off by nothing: x and y are rest / 16.", AnswersTest::learnedInBothAxes)
            .brokenBy("return x == restPlaceX() && y == restPlaceY();", "return x == restPlaceX() || y == restPlaceY();")
            .brokenBy("return x == restPlaceX() && y == restPlaceY();", "return x == restPlaceX();")
            .brokenBy("return x == restPlaceX() && y == restPlaceY();", "return y == restPlaceY();")
            .brokenBy("return x == restPlaceX() && y == restPlaceY();", "return 16 * x == restX && 16 * y == restY;");
        doc.says("Returns how many; BAD_VALUE if x or y is out of range;", AnswersTest::learnedInOutOfRange)
            .brokenBy("public int learnedIn(int x, int y) { if (!isSample(x, y)) { return BAD_VALUE; }",
                "public int learnedIn(int x, int y) {")
            .brokenBy("public int learnedIn(int x, int y) { if (!isSample(x, y))",
                "public int learnedIn(int x, int y) { if (!isSample(x, 0))")
            .brokenBy("public int learnedIn(int x, int y) { if (!isSample(x, y))",
                "public int learnedIn(int x, int y) { if (!isSample(0, y))");
        // The most that any stick needs is 71 samples and 20 more while a press shakes: a bound of 91 or more is all alike.
        doc.says("NONE if it is not within 500.", AnswersTest::learnedInNever)
            .brokenBy("MOST_LEARNING = 500", "MOST_LEARNING = 90")
            .brokenBy("trial.take(x, y); } return NONE; } public int edge",
                "trial.take(x, y); } return 0; } public int edge");
    }

    private static void learnedInMany() {
        StickRests s = new StickRests();
        due("0", s.learnedIn(128, 128), 0);
        // 2046, and 2046 / 16 is 127
        due("1", s.learnedIn(127, 128), 1);
        // 2044, 2041, 2038, 2036, 2034, 2032, 2030
        due("7", s.learnedIn(126, 128), 7);
        // 2042, 2037, 2033, 2029, 2026, 2023, 2021, 2019, 2017, 2015
        due("10, on y", s.learnedIn(128, 125), 10);
        due("by drifting", s.learnedIn(140, 120), 13);
        s.hold(140, 120, 5);
        due("by drifting, with five ahead", s.learnedIn(140, 120), 8);
        due("by drifting, one off those ahead", s.learnedIn(141, 119), 8);
        s.press(0);
        due("four shake first", s.learnedIn(127, 128), 5);
        due("0, though a press shakes", s.learnedIn(128, 128), 0);
        s.set(Sticks.SLOW, 1);
        due("five, learned at once", s.learnedIn(134, 122), 5);
    }

    private static void learnedInBothAxes() {
        StickRests s = new StickRests();
        due("x in 1, y in 7", s.learnedIn(127, 126), 7);
        due("x in 7, y in 1", s.learnedIn(126, 127), 7);
        due("y is off by nothing already", s.learnedIn(127, 128), 1);
        due("x is off by nothing already", s.learnedIn(128, 127), 1);
        s.sample(127, 128);
        due("the rest is 2046", s.of(0, 0), 2046);
        due("2046 / 16 is 127", s.learnedIn(127, 128), 0);
        due("so it is not 128 any more, nor ever with SLOW 8", s.learnedIn(128, 128), -6);
    }

    private static void learnedInOutOfRange() {
        StickRests s = new StickRests();
        for (int[] at : OUTSIDE) {
            due("learnedIn(" + at[0] + ", " + at[1] + ")", s.learnedIn(at[0], at[1]), -2);
        }
        s = Sticks.restingAt(0, 255);
        due("learnedIn(0, 255)", s.learnedIn(0, 255), 0);
        s = Sticks.restingAt(255, 0);
        due("learnedIn(255, 0)", s.learnedIn(255, 0), 0);
        due("learnedIn(255, -1)", s.learnedIn(255, -1), -2);
        due("learnedIn(256, 0)", s.learnedIn(256, 0), -2);
    }

    private static void learnedInNever() {
        StickRests s = new StickRests();
        due("the last seven sixteenths are never learned with SLOW 8", s.learnedIn(129, 128), -6);
        due("x is learned, y never", s.learnedIn(127, 129), -6);
        due("out of the zone and farther than a drift", s.learnedIn(143, 128), -6);
        due("the farthest", s.learnedIn(255, 0), -6);
        s = longToLearn();
        due("20 that shake, and 71", s.learnedIn(78, 128), 91);
        s.hold(78, 128, 90);
        due("one to go", s.of(0, 3), 999);
        due("in one", s.learnedIn(78, 128), 1);
        s.sample(78, 128);
        due("there", s.of(0, 3), 1000);
    }

    /** The zone is 50, the rest of x 2060, SLOW 16, and a press shakes for 20 samples. */
    private static StickRests longToLearn() {
        StickRests s = Sticks.widest();
        s.sample(176, 128);
        s.set(Sticks.SLOW, 16);
        s.set(Sticks.SHAKE, 20);
        s.press(0);
        due("a rest that is as far as one can be learned from", s.of(0, 0), 2060);
        due("the widest zone", s.count(1), 50);
        return s;
    }

    // ---- promise 13

    private static void edge(Sentences doc) {
        doc.part("Promise 13: edge");
        doc.says("Tells how far to a side one must go for the stick to tell something: the least number n, 1 to 255, "
                + "for which a sample that is n off from rest / 16 on an axis, in a direction,", AnswersTest::edgeLeast)
            .brokenBy("for (int n = 1; n <= AXIS_END; n++) {", "for (int n = stick.zone + 2; n <= AXIS_END; n++) {")
            .brokenBy("for (int n = 1; n <= AXIS_END; n++) {", "for (int n = AXIS_END; n > 0; n--) {")
            .brokenBy("stick.tellingAt(x, y) != packed(0, 0)", "stick.farthestOff(x, y) > stick.zone")
            .brokenBy("int x = stick.restPlaceX() +", "int x = 128 +")
            .brokenBy("int y = stick.restPlaceY() +", "int y = 128 +");
        doc.says("and off by nothing on the other one, would tell something", AnswersTest::edgeOtherAxis)
            .brokenBy("int y = stick.restPlaceY() +", "int y = stick.latestY +")
            .brokenBy("int x = stick.restPlaceX() +", "int x = stick.latestX +")
            .brokenBy("(axis == 0 ? step * n : 0)", "step * n")
            .brokenBy("(axis == 1 ? step * n : 0)", "step * n");
        doc.says("(one by which the stick would drift tells nothing).", AnswersTest::edgeAndDrift)
            .brokenBy("|| wouldDrift(x, y)) {", ") {")
            .brokenBy("stick.tellingAt(x, y) != packed(0, 0)) {",
                "(stick.tellingAt(x, y) != packed(0, 0) || stick.wouldDrift(x, y))) {");
        doc.says("- `axis`: 0 or 1", AnswersTest::edgeAxes)
            .brokenBy("(axis == 0 ? step * n : 0)", "(axis == 1 ? step * n : 0)")
            .brokenBy("public int edge(int axis, int up) { if (axis != 0 && axis != 1)",
                "public int edge(int axis, int up) { if (axis != 0)")
            .brokenBy("public int edge(int axis, int up) { if (axis != 0 && axis != 1)",
                "public int edge(int axis, int up) { if (axis != 1)");
        doc.says("- `up`: 1 to higher numbers, 0 to lower ones", AnswersTest::edgeSides)
            .brokenBy("int step = up == 1 ? 1 : -1;", "int step = up == 1 ? -1 : 1;")
            .brokenBy("int step = up == 1 ? 1 : -1;", "int step = 1;")
            .brokenBy("int step = up == 1 ? 1 : -1;", "int step = -1;");
        doc.says("Returns the number; NO_SUCH if there is no such axis;", AnswersTest::edgeNoSuchAxis)
            .brokenBy("public int edge(int axis, int up) { if (axis != 0 && axis != 1)",
                "public int edge(int axis, int up) { if (axis < 0)")
            .brokenBy("public int edge(int axis, int up) { if (axis != 0 && axis != 1)",
                "public int edge(int axis, int up) { if (axis > 1)");
        doc.says("BAD_VALUE if up is neither;", AnswersTest::edgeUpIsNeither)
            .brokenBy("if (up != 0 && up != 1) {", "if (up < 0) {")
            .brokenBy("if (up != 0 && up != 1) {", "if (up > 1) {");
        doc.says("NONE if no number of an axis (0 to 255) does.", AnswersTest::edgeAtTheEnd)
            .brokenBy("if (isSample(x, y) && stick.tellingAt", "if (stick.tellingAt")
            .brokenBy("if (isSample(x, y) && stick.tellingAt", "if (isSample(x + 1, y + 1) && stick.tellingAt")
            .brokenBy("if (isSample(x, y) && stick.tellingAt", "if (isSample(x - 1, y - 1) && stick.tellingAt")
            .brokenBy("return n; } } return NONE;", "return n; } } return 0;");
    }

    private static void edgeLeast() {
        StickRests s = new StickRests();
        due("zone 6", s.edge(0, 1), 7);
        s.set(Sticks.REACH, 127);
        due("zone 6, but 1 * 100 / 121 is nothing", s.edge(0, 1), 8);
        s.set(Sticks.ZONE, 1);
        due("zone 1, but 1 * 100 / 126 is nothing", s.edge(1, 1), 3);
        s.set(Sticks.REACH, 101);
        due("zone 1, and 1 * 100 / 100 is something", s.edge(1, 1), 2);
        s.set(Sticks.REACH, 102);
        due("zone 1, but 1 * 100 / 101 is nothing", s.edge(1, 1), 3);
        s.set(Sticks.ZONE, 30);
        due("zone 30", s.edge(1, 0), 31);
        due("zone 50", Sticks.widest().edge(0, 0), 51);
        s = Sticks.restingAt(140, 100);
        due("from the rest, up", s.edge(0, 1), 7);
        due("from the rest, down", s.edge(0, 0), 7);
        due("from the rest of y, up", s.edge(1, 1), 7);
        due("from the rest of y, down", s.edge(1, 0), 7);
    }

    private static void edgeOtherAxis() {
        StickRests s = new StickRests();
        s.sample(200, 220);
        due("the latest sample does not matter for y", s.edge(1, 1), 7);
        due("the latest sample does not matter for x", s.edge(0, 0), 7);
        s.set(Sticks.REACH, 127);
        due("x alone tells it", s.edge(0, 1), 8);
        due("y alone tells it", s.edge(1, 0), 8);
        s = Sticks.restingAt(255, 128);
        due("up on y, while x cannot go up", s.edge(1, 1), 7);
        s = Sticks.restingAt(128, 0);
        due("down on x, while y cannot go down", s.edge(0, 0), 7);
    }

    private static void edgeAndDrift() {
        StickRests s = new StickRests();
        s.hold(135, 128, 12);
        due("135 and 136 would drift", s.edge(0, 1), 9);
        due("121 would not", s.edge(0, 0), 7);
        due("on y none would", s.edge(1, 1), 7);
        s.press(3);
        due("none would while a press shakes", s.edge(0, 1), 7);
        for (int besides = 126; besides <= 130; besides++) {
            int want = besides == 126 || besides == 130 ? 7 : 9;
            StickRests x = new StickRests();
            x.hold(135, besides, 12);
            due("up on x, held at 135, " + besides, x.edge(0, 1), want);
            StickRests y = new StickRests();
            y.hold(besides, 121, 12);
            due("down on y, held at " + besides + ", 121", y.edge(1, 0), want);
        }
        s = new StickRests();
        s.hold(142, 128, 12);
        due("held 14 off: 7 off would not drift", s.edge(0, 1), 7);
    }

    private static void edgeAxes() {
        StickRests s = new StickRests();
        s.hold(135, 128, 12);
        due("edge(0, 1)", s.edge(0, 1), 9);
        due("edge(1, 1)", s.edge(1, 1), 7);
        s = new StickRests();
        s.hold(128, 135, 12);
        due("edge(0, 1), held on y", s.edge(0, 1), 7);
        due("edge(1, 1), held on y", s.edge(1, 1), 9);
    }

    private static void edgeSides() {
        StickRests s = new StickRests();
        s.hold(135, 128, 12);
        due("to higher numbers", s.edge(0, 1), 9);
        due("to lower numbers", s.edge(0, 0), 7);
        s = new StickRests();
        s.hold(121, 128, 12);
        due("to higher numbers, held below", s.edge(0, 1), 7);
        due("to lower numbers, held below", s.edge(0, 0), 9);
    }

    private static void edgeNoSuchAxis() {
        StickRests s = new StickRests();
        for (int axis : new int[] {-1, 2, 3, Integer.MAX_VALUE, Integer.MIN_VALUE}) {
            due("edge(" + axis + ", 0)", s.edge(axis, 0), -1);
            due("edge(" + axis + ", 1)", s.edge(axis, 1), -1);
        }
    }

    private static void edgeUpIsNeither() {
        StickRests s = new StickRests();
        for (int up : new int[] {-1, 2, 3, Integer.MAX_VALUE, Integer.MIN_VALUE}) {
            due("edge(0, " + up + ")", s.edge(0, up), -2);
            due("edge(1, " + up + ")", s.edge(1, up), -2);
        }
    }

    private static void edgeAtTheEnd() {
        StickRests s = Sticks.restingAt(248, 7);
        due("7 up to just 255", s.edge(0, 1), 7);
        due("7 down to just 0", s.edge(1, 0), 7);
        s.set(Sticks.ZONE, 7);
        due("8 up is more than 255", s.edge(0, 1), -6);
        due("8 down is less than 0", s.edge(1, 0), -6);
        due("8 down", s.edge(0, 0), 8);
        due("8 up", s.edge(1, 1), 8);
        s = Sticks.restingAt(7, 248);
        due("7 down to just 0 on x", s.edge(0, 0), 7);
        due("7 up to just 255 on y", s.edge(1, 1), 7);
        s.set(Sticks.ZONE, 7);
        due("8 down is less than 0 on x", s.edge(0, 0), -6);
        due("8 up is more than 255 on y", s.edge(1, 1), -6);
        s = Sticks.restingAt(255, 0);
        due("nothing above 255", s.edge(0, 1), -6);
        due("nothing below 0", s.edge(1, 0), -6);
    }

    // ---- promise 14

    private static void driftsIn(Sentences doc) {
        doc.part("Promise 14: driftsIn");
        doc.says("Tells in how many samples, all the same, 1 or more, the stick would drift.", AnswersTest::driftsInMany)
            .brokenBy("if (trial.wouldDrift(x, y)) { return many; }", "if (trial.wouldDrift(x, y)) { return many - 1; }")
            .brokenBy("if (trial.wouldDrift(x, y)) { return many; } trial.take(x, y);",
                "trial.take(x, y); if (trial.wouldDrift(x, y)) { return many; }")
            .brokenBy("if (trial.wouldDrift(x, y)) { return many; }",
                "if (trial.wouldDrift(x, y)) { return many; } if (trial.shaking > 0) { trial.still = 0; }");
        doc.says("Returns how many; BAD_VALUE if x or y is out of range;", AnswersTest::driftsInOutOfRange)
            .brokenBy("public int driftsIn(int x, int y) { if (!isSample(x, y))",
                "public int driftsIn(int x, int y) { if (!isSample(x, 0))")
            .brokenBy("public int driftsIn(int x, int y) { if (!isSample(x, y))",
                "public int driftsIn(int x, int y) { if (!isSample(0, y))")
            .brokenBy("public int driftsIn(int x, int y) { if (!isSample(x, y)) { return BAD_VALUE; }",
                "public int driftsIn(int x, int y) { if (!isSample(x, y)) { return NONE; }");
        // No stick needs more than 61 samples (STILL is 60 at most): a bound of 61 or more is all alike.
        doc.says("NONE if it is not within 200.", AnswersTest::driftsInNever)
            .brokenBy("MOST_DRIFTING = 200", "MOST_DRIFTING = 60")
            .brokenBy("&& off > zone", "&& off >= zone")
            .brokenBy("trial.take(x, y); } return NONE; } public int put", "trial.take(x, y); } return 0; } public int put");
    }

    private static void driftsInMany() {
        StickRests s = new StickRests();
        due("thirteen", s.driftsIn(135, 128), 13);
        due("thirteen, 14 off", s.driftsIn(142, 114), 13);
        s.hold(140, 128, 5);
        due("five ahead", s.driftsIn(140, 128), 8);
        due("five ahead, one off", s.driftsIn(139, 129), 8);
        due("five ahead, two off", s.driftsIn(138, 128), 13);
        s.hold(140, 128, 7);
        due("the next one", s.driftsIn(140, 128), 1);
        s.press(0);
        due("four that shake first, still all the same", s.driftsIn(140, 128), 5);
        s.set(Sticks.STILL, 2);
        s.set(Sticks.SHAKE, 20);
        s.press(1);
        due("twenty that shake first", s.driftsIn(120, 128), 21);
        due("STILL 2", Sticks.fresh(Sticks.STILL, 2).driftsIn(140, 128), 3);
    }

    private static void driftsInOutOfRange() {
        StickRests s = new StickRests();
        for (int[] at : OUTSIDE) {
            due("driftsIn(" + at[0] + ", " + at[1] + ")", s.driftsIn(at[0], at[1]), -2);
        }
        s = Sticks.restingAt(248, 7);
        due("driftsIn(255, 0)", s.driftsIn(255, 0), 13);
        due("driftsIn(256, 0)", s.driftsIn(256, 0), -2);
        due("driftsIn(255, -1)", s.driftsIn(255, -1), -2);
    }

    private static void driftsInNever() {
        StickRests s = new StickRests();
        due("in the zone", s.driftsIn(134, 122), -6);
        due("off by nothing", s.driftsIn(128, 128), -6);
        due("15 off", s.driftsIn(143, 128), -6);
        due("15 off on y", s.driftsIn(135, 113), -6);
        due("the farthest", s.driftsIn(0, 255), -6);
        // The rest is learned slowly, and the zone is no wider: for 13 samples the stick is off by just the zone.
        due("at the end of the zone", Sticks.fresh(Sticks.SLOW, 64, Sticks.WIDE, 0).driftsIn(128, 134), -6);
        due("STILL 60", Sticks.fresh(Sticks.STILL, 60).driftsIn(140, 128), 61);
        s.hold(140, 128, 13);
        due("drifted just now", s.driftsIn(140, 128), -6);
    }
}
