/** The part of the document that says what a sample does. */
public final class SampleTest {
    private static final Checks CHECKS = new Checks();

    public static void main(String[] args) {
        sentences().test("SampleTest");
    }

    static Sentences sentences() {
        Sentences doc = new Sentences(CHECKS);
        doc.part("A sample");
        still(doc);
        inTheZone(doc);
        telling(doc);
        drifting(doc);
        behindIt(doc);
        return doc;
    }

    private static void due(String call, long got, long want) {
        CHECKS.due(call, got, want);
    }

    // ---- 1: still ones

    private static void still(Sentences doc) {
        doc.says("A sample tells x and y: 1. If both differ by 1 at most from those of the sample ahead, the stick is still: "
                + "that is counted, 1 more than ahead;", SampleTest::isStill)
            .brokenBy("Math.abs(x - latestX) <= 1", "Math.abs(x - latestX) < 1")
            .brokenBy("Math.abs(y - latestY) <= 1", "Math.abs(y - latestY) < 1")
            .brokenBy("Math.abs(x - latestX) <= 1", "x - latestX <= 1 && latestX <= x")
            .brokenBy("Math.abs(y - latestY) <= 1", "y - latestY <= 1 && latestY <= y")
            .brokenBy("return isStill ? still + 1 : 0;", "return isStill ? 1 : 0;")
            .brokenBy("latestX = x; latestY = y;", "if (stillWith(x, y) == 0) { latestX = x; latestY = y; }")
            .brokenBy("still = stillWith(x, y);", "still = farthestOff(x, y) <= zone ? 0 : stillWith(x, y);");
        doc.says("otherwise (also for the first sample) the count of still ones is 0.", SampleTest::isNotStill)
            .brokenBy("samples > 0 && Math.abs(x", "Math.abs(x")
            .brokenBy("Math.abs(x - latestX) <= 1", "Math.abs(x - latestX) <= 2")
            .brokenBy("Math.abs(y - latestY) <= 1", "Math.abs(y - latestY) <= 2")
            .brokenBy("Math.abs(x - latestX) <= 1 &&", "Math.abs(x - latestX) <= 1 ||")
            .brokenBy("return isStill ? still + 1 : 0;", "return isStill ? still + 1 : still;")
            .brokenBy("return isStill ? still + 1 : 0;", "return isStill ? still + 1 : 1;");
    }

    private static void isStill() {
        StickRests s = Sticks.fresh();
        int[][] samples = {{200, 200}, {201, 201}, {200, 200}, {199, 201}, {199, 201}, {200, 202}, {201, 203}, {202, 204}};
        for (int i = 0; i < samples.length; i++) {
            s.sample(samples[i][0], samples[i][1]);
            due("still ones behind sample " + i, s.count(2), i);
        }
        s = Sticks.fresh();
        s.hold(128, 128, 5);
        due("in the zone, too", s.count(2), 4);
    }

    private static void isNotStill() {
        StickRests s = Sticks.fresh();
        s.sample(0, 0);
        due("the first sample, at 0, 0", s.count(2), 0);
        s.hold(0, 0, 3);
        int[][] samples = {{2, 0}, {0, 0}, {0, 2}, {0, 0}, {1, 2}, {3, 3}, {255, 0}, {255, 255}};
        for (int[] at : samples) {
            s.sample(at[0], at[1]);
            due("still ones at " + at[0] + ", " + at[1], s.count(2), 0);
        }
        s = Sticks.fresh();
        s.save(0);
        s.hold(128, 128, 4);
        s.restore(0);
        s.sample(128, 128);
        due("the first sample of a stick that was restored", s.count(2), 0);
        s = Sticks.fresh();
        s.sample(128, 128);
        s.undo();
        s.sample(128, 128);
        due("the first sample again", s.count(2), 0);
    }

    // ---- 2: in the zone

    private static void inTheZone(Sentences doc) {
        doc.says("2. If the stick is in the zone, it tells 0, 0.", SampleTest::tellsNothingInTheZone)
            .brokenBy("return packed(0, 0); }", "return farthestOff(x, y) <= zone ? telling() : packed(0, 0); }")
            .brokenBy("return packed(0, 0); }", "return farthestOff(x, y) == zone ? packed(1, 1) : packed(0, 0); }")
            .brokenBy("tell(telling);", "if (!rests || !tellsSomething()) { tell(telling); }");
        doc.says("If it told something in the sample ahead, it was let go now.", SampleTest::letsGo)
            .brokenBy("if (tellsSomething()) { letGo++; }", "letGo++;")
            .brokenBy("if (tellsSomething()) { letGo++; }", "if (tellX != 0) { letGo++; }")
            .brokenBy("if (tellsSomething()) { letGo++; }", "if (tellX > 0 || tellY != 0) { letGo++; }")
            .brokenBy("if (tellsSomething()) { letGo++; }", "if (tellsSomething() && shaking == 0) { letGo++; }")
            .brokenBy("} else if (drifts) {",
                "} else if (telling == packed(0, 0) && !drifts && tellsSomething()) { letGo++; } else if (drifts) {");
        doc.says("If no press shakes, then:", SampleTest::learnsNothingWhileShaking)
            .brokenBy("if (shaking > 0) { shakenInZone++; return; }", "if (shaking > 0) { shakenInZone++; }")
            .brokenBy("if (shaking > 0) { shakenInZone++; return; }", "if (shaking > 1) { shakenInZone++; return; }")
            .brokenBy("shakenInZone++; return;", "shakenInZone++; fitZone(farthestOff(x, y)); return;")
            .brokenBy("if (shaking > 0) { shakenInZone++; return; }",
                "if (shaking > 0 || down > 0) { shakenInZone++; return; }");
        doc.says("with d being the greater one of dx and dy, without signs:", SampleTest::greaterOneFitsTheZone)
            .brokenBy("fitZone(farthestOff(x, y));", "fitZone(Math.abs(x - restPlaceX()));")
            .brokenBy("fitZone(farthestOff(x, y));", "fitZone(Math.abs(y - restPlaceY()));")
            .brokenBy("fitZone(farthestOff(x, y));", "fitZone(Math.max(x - restPlaceX(), y - restPlaceY()));")
            .brokenBy("fitZone(farthestOff(x, y));",
                "fitZone(Math.min(Math.abs(x - restPlaceX()), Math.abs(y - restPlaceY())));");
        doc.says("if 2 * d is more than the zone, the zone is 1 wider,", SampleTest::widens)
            .brokenBy("if (2 * off > zone) {", "if (2 * off >= zone) {")
            .brokenBy("if (2 * off > zone) {", "if (2 * off > zone + 1) {")
            .brokenBy("Math.min(zone + 1,", "Math.min(zone + 2,");
        doc.says("but ZONE and WIDE together at most;", SampleTest::widensToAnEnd)
            .brokenBy("Math.min(zone + 1, settings[ZONE] + settings[WIDE])", "zone + 1")
            .brokenBy("settings[ZONE] + settings[WIDE]", "settings[ZONE] + settings[WIDE] - 1")
            .brokenBy("settings[ZONE] + settings[WIDE]", "settings[ZONE] + settings[WIDE] + 1");
        doc.says("if 4 * d is not more than the zone, it is 1 narrower,", SampleTest::narrows)
            .brokenBy("4 * off <= zone", "4 * off < zone")
            .brokenBy("4 * off <= zone", "4 * off <= zone + 1")
            .brokenBy("Math.max(zone - 1,", "Math.max(zone - 2,");
        doc.says("but ZONE at least;", SampleTest::narrowsToAnEnd)
            .brokenBy("Math.max(zone - 1, settings[ZONE])", "zone - 1")
            .brokenBy("Math.max(zone - 1, settings[ZONE])", "Math.max(zone - 1, settings[ZONE] + 1)")
            .brokenBy("Math.max(zone - 1, settings[ZONE])", "Math.max(zone - 1, settings[ZONE] - 1)");
        doc.says("and then each axis of the rest is (16 * x - rest) / SLOW more, likewise with y.", SampleTest::learns)
            .brokenBy("restX += quotient(16 * x - restX, settings[SLOW]);",
                "restX += 16 * quotient(x - restX / 16, settings[SLOW]);")
            .brokenBy("restX += quotient(16 * x - restX, settings[SLOW]);", "")
            .brokenBy("restY += quotient(16 * y - restY, settings[SLOW]);", "")
            .brokenBy("restY += quotient(16 * y - restY, settings[SLOW]);",
                "restY += quotient(16 * x - restY, settings[SLOW]);")
            .brokenBy("restX += quotient(16 * x - restX, settings[SLOW]);",
                "restX += quotient(16 * x - restX, settings[SLOW] + 1);")
            .brokenBy("fitZone(farthestOff(x, y)); restX += quotient(16 * x - restX, settings[SLOW]); "
                    + "restY += quotient(16 * y - restY, settings[SLOW]);",
                "restX += quotient(16 * x - restX, settings[SLOW]); "
                    + "restY += quotient(16 * y - restY, settings[SLOW]); fitZone(farthestOff(x, y));");
    }

    private static void tellsNothingInTheZone() {
        int[][] samples = {{128, 128}, {134, 128}, {122, 128}, {128, 134}, {128, 122}, {134, 122}, {122, 134}};
        for (int[] at : samples) {
            due("sample(" + at[0] + ", " + at[1] + ")", Sticks.fresh().sample(at[0], at[1]), 100100);
        }
        StickRests s = Sticks.fresh();
        s.sample(255, 255);
        due("behind one that told something", s.sample(134, 134), 100100);
        due("of(0, 1)", s.of(0, 1), 100);
        due("of(1, 1)", s.of(1, 1), 100);
    }

    private static void letsGo() {
        StickRests s = Sticks.fresh();
        s.sample(128, 128);
        due("nothing ahead", s.count(4), 0);
        int[][] told = {{200, 128}, {56, 128}, {128, 200}, {128, 56}, {135, 121}};
        for (int i = 0; i < told.length; i++) {
            s.sample(told[i][0], told[i][1]);
            due("told, and not let go yet", s.count(4), i);
            s.sample(128, 128);
            due("let go", s.count(4), i + 1);
            s.sample(128, 128);
            due("let go once", s.count(4), i + 1);
        }
        s.sample(200, 128);
        s.press(0);
        s.sample(128, 128);
        due("also while a press shakes", s.count(4), 6);
        s = Sticks.fresh(Sticks.REACH, 127);
        s.sample(200, 128);
        due("beyond the zone it tells nothing", s.sample(135, 128), 100100);
        due("but is not in the zone", s.count(4), 0);
        s.sample(128, 128);
        due("and nothing was told ahead", s.count(4), 0);
    }

    private static void learnsNothingWhileShaking() {
        StickRests s = Sticks.fresh();
        s.press(2);
        for (int i = 1; i <= 4; i++) {
            s.sample(132, 124);
            due("rest of x behind " + i, s.of(0, 0), 2048);
            due("rest of y behind " + i, s.of(1, 0), 2048);
            due("zone behind " + i, s.count(1), 6);
        }
        s.sample(132, 124);
        due("the fifth one is learned on x, though the button is down", s.of(0, 0), 2056);
        due("the fifth one is learned on y", s.of(1, 0), 2040);
        due("the fifth one widens the zone", s.count(1), 7);
        s.press(3);
        s.hold(128, 127, 4);
        due("nor is it narrower", s.count(1), 7);
        s.sample(128, 127);
        due("until no press shakes", s.count(1), 6);
    }

    private static int zoneBehind(int x, int y) {
        StickRests s = Sticks.fresh();
        s.sample(x, y);
        return s.count(1);
    }

    private static void greaterOneFitsTheZone() {
        due("x is greater", zoneBehind(132, 128), 7);
        due("y is greater", zoneBehind(128, 132), 7);
        due("x is greater, below", zoneBehind(124, 130), 7);
        due("y is greater, below", zoneBehind(126, 124), 7);
        due("both are less", zoneBehind(131, 125), 6);
    }

    /** The zone can be 6 to 14 and is brought to 8; the rest stays at 2048. */
    private static StickRests withZone8() {
        StickRests s = Sticks.fresh(Sticks.SLOW, 64);
        s.sample(132, 132);
        s.sample(124, 124);
        return s;
    }

    private static void widens() {
        due("2 * 3 is not more than 6", zoneBehind(131, 128), 6);
        due("2 * 4 is more than 6", zoneBehind(132, 128), 7);
        StickRests s = withZone8();
        due("zone 8", s.count(1), 8);
        s.sample(132, 128);
        due("2 * 4 is not more than 8", s.count(1), 8);
        s.sample(133, 128);
        due("2 * 5 is more than 8", s.count(1), 9);
        s.sample(133, 128);
        due("2 * 5 is more than 9", s.count(1), 10);
        s.sample(133, 128);
        due("2 * 5 is not more than 10", s.count(1), 10);
    }

    private static int zoneBehindMany(StickRests s) {
        for (int i = 0; i < 6; i++) {
            s.sample(134, 128);
            s.sample(122, 128);
        }
        return s.count(1);
    }

    private static void widensToAnEnd() {
        int[] wide = {0, 1, 2, 5};
        for (int most : wide) {
            due("WIDE " + most, zoneBehindMany(Sticks.fresh(Sticks.SLOW, 64, Sticks.WIDE, most)), 6 + most);
        }
        due("ZONE 30, WIDE 20", Sticks.widest().count(1), 50);
    }

    private static void narrows() {
        StickRests s = withZone8();
        s.sample(131, 128);
        due("4 * 3 is more than 8", s.count(1), 8);
        s.sample(130, 126);
        due("4 * 2 is not more than 8", s.count(1), 7);
        s.sample(126, 130);
        due("4 * 2 is more than 7", s.count(1), 7);
        s = Sticks.widest();
        s.sample(128, 128);
        due("4 * 0 is not more than 50", s.count(1), 49);
    }

    private static void narrowsToAnEnd() {
        StickRests s = withZone8();
        int[] zones = {7, 6, 6, 6};
        for (int i = 0; i < zones.length; i++) {
            s.sample(128, 128);
            due("zone behind " + i, s.count(1), zones[i]);
        }
        s = Sticks.fresh(Sticks.ZONE, 1);
        s.hold(128, 128, 3);
        due("zone 1", s.count(1), 1);
    }

    private static void learns() {
        StickRests s = Sticks.fresh();
        s.sample(132, 122);
        due("64 / 8 on x", s.of(0, 0), 2056);
        due("-96 / 8 on y", s.of(1, 0), 2036);
        s.sample(132, 122);
        due("56 / 8 on x", s.of(0, 0), 2063);
        due("-84 / 8 on y", s.of(1, 0), 2026);
        s.sample(200, 122);
        due("out of the zone x stays", s.of(0, 0), 2063);
        due("out of the zone y stays", s.of(1, 0), 2026);
        s = Sticks.fresh(Sticks.SLOW, 1);
        s.sample(134, 128);
        due("the zone goes by the rest ahead", s.count(1), 7);
        due("at once", s.of(0, 0), 2144);
    }

    // ---- 3: out of the zone

    private static void telling(Sentences doc) {
        doc.says("3. If it is not in the zone: each axis tells 0 if it is off by the zone or less,",
                SampleTest::nearAxisTellsNothing)
            .brokenBy("if (beyond <= 0) { return 0; }", "if (beyond < -1) { return 0; }")
            .brokenBy("if (beyond <= 0) { return 0; }", "if (beyond <= 1) { return 0; }")
            .brokenBy("int beyond = Math.abs(off) - zone;", "int beyond = Math.abs(off) - settings[ZONE];");
        doc.says("otherwise (how much more than the zone it is off, without its sign) * 100 / (REACH less the zone),",
                SampleTest::tells)
            .brokenBy("int beyond = Math.abs(off) - zone;", "int beyond = Math.abs(off);")
            .brokenBy("settings[REACH] - zone)", "settings[REACH])")
            .brokenBy("settings[REACH] - zone)", "settings[REACH] - settings[ZONE])")
            .brokenBy("quotient(beyond * FULL, settings[REACH] - zone)", "beyond * quotient(FULL, settings[REACH] - zone)");
        doc.says("but 100 at most,", SampleTest::tells100AtMost)
            .brokenBy("Math.min(FULL, quotient(", "Math.min(FULL + 1, quotient(")
            .brokenBy("Math.min(FULL, quotient(", "Math.min(FULL - 1, quotient(");
        doc.says("with the sign by which it is off.", SampleTest::tellsWithSign)
            .brokenBy("return off < 0 ? -lean : lean;", "return lean;")
            .brokenBy("return off < 0 ? -lean : lean;", "return off > 0 ? -lean : lean;");
        doc.says("If both together, without signs, are more than CORNER, each one is multiplied by CORNER and divided by their sum.",
                SampleTest::cutsCorners)
            .brokenBy("if (sum > corner) {", "if (sum > corner + 1) {")
            .brokenBy("if (sum > corner) {", "if (sum > corner - 1) { sum++;")
            .brokenBy("Math.abs(leanX) + Math.abs(leanY)", "leanX + leanY")
            .brokenBy("Math.abs(leanX) + Math.abs(leanY)", "Math.max(Math.abs(leanX), Math.abs(leanY)) * 2")
            .brokenBy("quotient(leanX * corner, sum)", "leanX")
            .brokenBy("quotient(leanY * corner, sum)", "leanY");
    }

    private static void nearAxisTellsNothing() {
        due("y is off by the zone", Sticks.fresh().sample(178, 134), 146100);
        due("y is off by the zone, below", Sticks.fresh().sample(178, 122), 146100);
        due("y is off by one less", Sticks.fresh().sample(178, 133), 146100);
        due("y is off by one more", Sticks.fresh().sample(178, 135), 146101);
        due("y is off by one more, below", Sticks.fresh().sample(178, 121), 146099);
        due("x is off by the zone", Sticks.fresh().sample(134, 178), 100146);
        due("x is off by one more", Sticks.fresh().sample(135, 178), 101146);
        StickRests s = withZone8();
        due("off by the zone that is wider", s.sample(178, 136), 145100);
        due("off by more than that", s.sample(178, 137), 145101);
    }

    private static void tells() {
        due("1 * 100 / 94", Sticks.fresh().sample(135, 128), 101100);
        due("2 * 100 / 94", Sticks.fresh().sample(136, 128), 102100);
        due("44 * 100 / 94", Sticks.fresh().sample(178, 128), 146100);
        due("44 * 100 / 94 on y", Sticks.fresh().sample(128, 178), 100146);
        due("93 * 100 / 94", Sticks.fresh().sample(227, 128), 198100);
        due("94 * 100 / 94", Sticks.fresh().sample(228, 128), 200100);
        due("1 * 100 / 121", Sticks.fresh(Sticks.REACH, 127).sample(135, 128), 100100);
        due("2 * 100 / 121", Sticks.fresh(Sticks.REACH, 127).sample(136, 128), 101100);
        StickRests s = withZone8();
        due("42 * 100 / 92, the zone is wider", s.sample(178, 128), 145100);
        s = Sticks.widest();
        s.set(Sticks.REACH, 60);
        due("5 * 100 / 10, the zone is the widest", s.sample(183, 128), 150100);
    }

    private static void tells100AtMost() {
        due("94 * 100 / 94", Sticks.fresh().sample(228, 128), 200100);
        due("95 * 100 / 94", Sticks.fresh().sample(229, 128), 200100);
        due("121 * 100 / 94", Sticks.fresh().sample(255, 128), 200100);
        due("122 * 100 / 94, below", Sticks.fresh().sample(0, 128), 100);
        due("122 * 100 / 94, below, on y", Sticks.fresh().sample(128, 0), 100000);
        due("on both axes", Sticks.fresh(Sticks.CORNER, 200).sample(255, 0), 200000);
    }

    private static void tellsWithSign() {
        due("to higher x", Sticks.fresh().sample(178, 128), 146100);
        due("to lower x", Sticks.fresh().sample(78, 128), 54100);
        due("to higher y", Sticks.fresh().sample(128, 178), 100146);
        due("to lower y", Sticks.fresh().sample(128, 78), 100054);
        due("to higher x and lower y", Sticks.fresh().sample(178, 78), 146054);
    }

    private static void cutsCorners() {
        due("just CORNER", Sticks.fresh().sample(255, 181), 200150);
        due("one more than CORNER", Sticks.fresh().sample(255, 182), 199150);
        due("just CORNER, below", Sticks.fresh().sample(0, 75), 50);
        due("one more than CORNER, below", Sticks.fresh().sample(0, 74), 1050);
        due("right and up", Sticks.fresh().sample(255, 255), 175175);
        due("right and down", Sticks.fresh().sample(255, 0), 175025);
        due("left and up", Sticks.fresh().sample(0, 255), 25175);
        due("left and down", Sticks.fresh().sample(0, 0), 25025);
        // 100 and 1 are 101 together: of the 1 there is left 100 / 101, which is 0.
        due("a little one is cut away", Sticks.fresh(Sticks.CORNER, 100).sample(255, 135), 199100);
        due("just CORNER 200", Sticks.fresh(Sticks.CORNER, 200).sample(255, 255), 200200);
    }

    // ---- 3: drift

    private static void drifting(Sentences doc) {
        doc.says("If no press shakes, and the count", SampleTest::driftsNotWhileShaking)
            .brokenBy("return shaking == 0 && off > zone", "return off > zone")
            .brokenBy("return shaking == 0 && off > zone", "return shaking <= 1 && off > zone")
            .brokenBy("return shaking == 0 && off > zone", "return shaking == 0 && down == 0 && off > zone");
        doc.says("of still ones is STILL or more,", SampleTest::driftsBehindStill)
            .brokenBy(">= settings[STILL]", "> settings[STILL]")
            .brokenBy(">= settings[STILL]", ">= settings[STILL] - 1")
            .brokenBy(">= settings[STILL]", "== settings[STILL]")
            .brokenBy("stillWith(x, y) >= settings[STILL]", "still >= settings[STILL]");
        doc.says("and the greater one of dx and dy, without signs, is at most the zone and 8, together,",
                SampleTest::driftsNearTheZone)
            .brokenBy("off <= zone + DRIFT_BEYOND_ZONE", "off < zone + DRIFT_BEYOND_ZONE")
            .brokenBy("off <= zone + DRIFT_BEYOND_ZONE", "off <= zone + DRIFT_BEYOND_ZONE + 1")
            .brokenBy("off <= zone + DRIFT_BEYOND_ZONE", "off <= settings[ZONE] + DRIFT_BEYOND_ZONE")
            .brokenBy("&& off > zone", "&& off > zone + 1")
            .brokenBy("off <= zone + DRIFT_BEYOND_ZONE", "Math.abs(x - restPlaceX()) <= zone + DRIFT_BEYOND_ZONE")
            .brokenBy("off <= zone + DRIFT_BEYOND_ZONE", "Math.abs(y - restPlaceY()) <= zone + DRIFT_BEYOND_ZONE");
        doc.says("the stick has drifted: the rest is 16 * x and 16 * y,", SampleTest::driftsTheRest)
            .brokenBy("drifted++;", "")
            .brokenBy("restX = 16 * x;", "")
            .brokenBy("restY = 16 * y;", "")
            .brokenBy("restX = 16 * x;", "restX = 16 * latestX + 8;")
            .brokenBy("still = stillWith(x, y); latestX = x; latestY = y;", "still = stillWith(x, y);")
            .brokenBy("drifted++;", "drifted++; zone = settings[ZONE];");
        doc.says("the count of still ones is 0, and it tells 0, 0.", SampleTest::driftsQuietly)
            .brokenBy("still = 0; drifted++;", "drifted++;")
            .brokenBy("still = 0; drifted++;", "still = 1; drifted++;")
            .brokenBy("farthestOff(x, y) <= zone || wouldDrift(x, y)", "farthestOff(x, y) <= zone");
        doc.says("(Drifting is no letting go.)", SampleTest::driftsWithoutLettingGo)
            .brokenBy("drifted++;", "drifted++; letGo++;")
            .brokenBy("tell(telling); if", "if (!drifts) { tell(telling); } if");
    }

    private static void driftsNotWhileShaking() {
        StickRests s = Sticks.fresh(Sticks.STILL, 2);
        s.press(0);
        due("four that shake", s.hold(140, 128, 4), 106100);
        due("no drift", s.count(5), 0);
        due("then it drifts, though the button is down", s.sample(140, 128), 100100);
        due("drifted", s.count(5), 1);
        s = Sticks.fresh();
        s.hold(140, 128, 12);
        s.press(0);
        due("the press was just ahead", s.sample(140, 128), 106100);
        due("still ones go on", s.count(2), 12);
    }

    private static void driftsBehindStill() {
        StickRests s = Sticks.fresh();
        due("11 still ones", s.hold(140, 120, 12), 106098);
        due("no drift", s.count(5), 0);
        due("12 still ones", s.sample(140, 120), 100100);
        due("drifted", s.count(5), 1);
        s = Sticks.fresh(Sticks.STILL, 60);
        s.hold(140, 128, 40);
        s.set(Sticks.STILL, 12);
        due("no drift by the setting alone", s.count(5), 0);
        due("40 still ones, and 12 are enough", s.sample(140, 128), 100100);
        s = Sticks.fresh();
        s.hold(140, 128, 12);
        due("one that is not still", s.sample(142, 128), 108100);
    }

    private static int driftsAt(int x, int y) {
        StickRests s = Sticks.fresh();
        s.hold(x, y, 13);
        return s.count(5);
    }

    private static void driftsNearTheZone() {
        due("7 off", driftsAt(135, 128), 1);
        due("14 off on both", driftsAt(142, 114), 1);
        due("15 off on x", driftsAt(143, 128), 0);
        due("15 off on y", driftsAt(128, 143), 0);
        due("15 off on x, below", driftsAt(113, 135), 0);
        due("15 off on y, below", driftsAt(135, 113), 0);
        due("6 off is in the zone", driftsAt(134, 134), 0);
        StickRests s = withZone8();
        s.hold(144, 128, 13);
        due("16 off, the zone is 8", s.count(5), 1);
        s = withZone8();
        s.hold(145, 128, 13);
        due("17 off, the zone is 8", s.count(5), 0);
    }

    private static void driftsTheRest() {
        StickRests s = withZone8();
        s.hold(140, 119, 12);
        s.sample(141, 118);
        due("drifted", s.count(5), 1);
        due("rest of x", s.of(0, 0), 16 * 141);
        due("rest of y", s.of(1, 0), 16 * 118);
        due("the zone stays", s.count(1), 8);
        due("x is off by nothing", s.of(0, 3), 1000);
        due("y is off by nothing", s.of(1, 3), 1000);
    }

    private static void driftsQuietly() {
        StickRests s = Sticks.fresh();
        s.hold(140, 120, 12);
        due("the sample", s.sample(140, 120), 100100);
        due("x tells", s.of(0, 1), 100);
        due("y tells", s.of(1, 1), 100);
        due("still ones", s.count(2), 0);
        due("samples that told something", s.count(7), 12);
        s.sample(140, 120);
        due("still again", s.count(2), 1);
    }

    private static void driftsWithoutLettingGo() {
        StickRests s = Sticks.fresh();
        s.hold(140, 120, 13);
        due("drifted", s.count(4), 0);
        s.sample(140, 120);
        due("nothing was told ahead", s.count(4), 0);
    }

    // ---- 4: behind it

    private static void behindIt(Sentences doc) {
        doc.says("4. A press that shakes does so for one sample less.", SampleTest::shakesLess)
            .brokenBy("if (shaking > 0) { shaking--; }", "shaking--;")
            .brokenBy("if (shaking > 0) { shaking--; }", "")
            .brokenBy("if (shaking > 0) { shaking--; }", "if (shaking > 1) { shaking--; }")
            .brokenBy("if (shaking > 0) { shaking--; }", "if (shaking > 0 && rests) { shaking--; }")
            .brokenBy("if (shaking > 0) { shaking--; }", "if (shaking > 0 && !rests) { shaking--; }");
        doc.says("The sample is counted.", SampleTest::isCounted)
            .brokenBy("samples++;", "")
            .brokenBy("samples++;", "if (!drifts) { samples++; }")
            .brokenBy("samples++;", "if (!rests) { samples++; }");
        doc.says("What it tells has a direction: the sign of x (1, 0 or -1) and the sign of y.", SampleTest::hasDirection)
            .brokenBy("Integer.compare(tellX, 0), Integer.compare(tellY, 0)",
                "Integer.compare(tellY, 0), Integer.compare(tellX, 0)")
            .brokenBy("Integer.compare(tellX, 0)", "Integer.compare(tellX, 1)")
            .brokenBy("Integer.compare(tellY, 0)", "Integer.compare(tellY, -1)")
            .brokenBy("Integer.compare(tellY, 0)", "Math.abs(Integer.compare(tellY, 0))");
    }

    private static void shakesLess() {
        StickRests s = Sticks.fresh();
        s.press(0);
        int[][] samples = {{128, 128}, {200, 128}, {132, 128}, {128, 0}, {128, 128}, {200, 128}};
        int[] left = {3, 2, 1, 0, 0, 0};
        for (int i = 0; i < samples.length; i++) {
            s.sample(samples[i][0], samples[i][1]);
            due("left behind sample " + i, s.count(3), left[i]);
        }
    }

    private static void isCounted() {
        StickRests s = Sticks.fresh();
        s.sample(128, 128);
        due("in the zone", s.count(0), 1);
        s.sample(200, 128);
        due("out of the zone", s.count(0), 2);
        s.hold(140, 128, 12);
        s.sample(140, 128);
        due("drifted", s.count(5), 1);
        due("drifting", s.count(0), 15);
        s.press(0);
        s.sample(128, 128);
        due("shaking", s.count(0), 16);
    }

    private static void hasDirection() {
        int[][] samples = {{255, 0}, {135, 128}, {128, 121}, {121, 135}, {128, 128}, {0, 0}, {128, 255}, {255, 135}, {121, 128}};
        int[] signs = {20, 21, 10, 2, 11, 0, 12, 22, 1};
        for (int i = 0; i < samples.length; i++) {
            StickRests s = Sticks.fresh();
            s.sample(samples[i][0], samples[i][1]);
            due("signs at " + samples[i][0] + ", " + samples[i][1], 10 * s.direction(0, 0) + s.direction(0, 1), signs[i]);
        }
        StickRests s = Sticks.fresh(Sticks.CORNER, 100);
        s.sample(255, 135);
        due("signs of what is left behind the cut", 10 * s.direction(0, 0) + s.direction(0, 1), 21);
        s = Sticks.fresh(Sticks.REACH, 127);
        s.sample(135, 121);
        due("signs of what tells nothing beyond the zone", 10 * s.direction(0, 0) + s.direction(0, 1), 11);
        s = Sticks.fresh();
        s.hold(140, 128, 13);
        due("signs of drifting", 10 * s.direction(1, 0) + s.direction(1, 1), 11);
    }
}
