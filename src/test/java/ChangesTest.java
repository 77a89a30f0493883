import java.util.function.ToIntFunction;

/** Promises 1 to 7: a new object, set, sample, hold, press, letUp, reset. */
public final class ChangesTest {
    private static final Checks CHECKS = new Checks();

    public static void main(String[] args) {
        sentences().test("ChangesTest");
    }

    static Sentences sentences() {
        Sentences doc = new Sentences(CHECKS);
        newObject(doc);
        set(doc);
        sample(doc);
        hold(doc);
        press(doc);
        letUp(doc);
        reset(doc);
        return doc;
    }

    private static void due(String call, long got, long want) {
        CHECKS.due(call, got, want);
    }

    /** A call on a used stick is one change more, and to undo it brings all back. */
    private static void oneChange(String call, int answer, ToIntFunction<StickRests> made) {
        StickRests s = Sticks.fresh();
        s.hold(132, 124, 3);
        s.press(2);
        s.hold(200, 128, 2);
        String before = Sticks.state(s);
        due(call, made.applyAsInt(s), answer);
        due(call + " is one change", s.count(18), 4);
        due("undo of " + call, s.undo(), 3);
        CHECKS.dueText("what there is behind undo of " + call, Sticks.state(s), before);
    }

    // ---- promise 1

    private static void newObject(Sentences doc) {
        doc.part("Promise 1: A new object");
        doc.says("Creates a stick without samples,", ChangesTest::newWithoutSamples)
            .brokenBy("settings = FIRST.clone();", "settings = FIRST.clone(); samples = 1;")
            .brokenBy("settings = FIRST.clone(); directions = new Directions();",
                "settings = FIRST.clone(); directions = new Directions(); directions.note(0, 0);")
            .brokenBy("settings = FIRST.clone();", "settings = FIRST.clone(); still = 1;");
        doc.says("all buttons up,", ChangesTest::newWithButtonsUp)
            .brokenBy("settings = FIRST.clone();", "settings = FIRST.clone(); down = 128;")
            .brokenBy("settings = FIRST.clone();", "settings = FIRST.clone(); shaking = 1;");
        doc.says("telling 0, 0.", ChangesTest::newTellingNothing)
            .brokenBy("settings = FIRST.clone();", "settings = FIRST.clone(); tellX = 1;")
            .brokenBy("settings = FIRST.clone();", "settings = FIRST.clone(); tellY = -1;");
    }

    private static void newWithoutSamples() {
        StickRests s = new StickRests();
        int[] numbers = {0, 6, 0, 0, 0, 0, 0, 0, 0, 0, 8, 6, 8, 100, 150, 12, 4, 0, 0};
        for (int what = 0; what < numbers.length; what++) {
            due("count(" + what + ")", s.count(what), numbers[what]);
        }
        due("of(0, 2)", s.of(0, 2), -6);
        due("of(1, 3)", s.of(1, 3), -6);
        due("direction(0, 0)", s.direction(0, 0), -1);
        s.sample(0, 0);
        due("the first sample is not still", s.count(2), 0);
        s = new StickRests();
        due("no history", s.undo(), -5);
        due("nothing in slot 0", s.restore(0), -5);
        due("nothing in slot 1", s.restore(1), -5);
        due("no text", s.wipe(), 0);
    }

    private static void newWithButtonsUp() {
        StickRests s = new StickRests();
        due("count(6)", s.count(6), 0);
        due("count(3)", s.count(3), 0);
        for (int button = 0; button < 8; button++) {
            due("letUp(" + button + ")", s.letUp(button), -5);
        }
        for (int button = 0; button < 8; button++) {
            due("press(" + button + ")", new StickRests().press(button), 1 << button);
        }
    }

    private static void newTellingNothing() {
        StickRests s = new StickRests();
        due("of(0, 1)", s.of(0, 1), 100);
        due("of(1, 1)", s.of(1, 1), 100);
        s.sample(128, 128);
        due("so nothing is let go by the first sample", s.count(4), 0);
    }

    // ---- promise 2

    private static void set(Sentences doc) {
        doc.part("Promise 2: set");
        doc.says("Changes a setting.", ChangesTest::setChanges)
            .brokenBy("settings[setting] = value;", "")
            .brokenBy("settings[setting] = value;", "settings[setting] = previous + 1;");
        doc.says("This is a change.", ChangesTest::setIsAChange)
            .brokenBy("history.keep(stick); return stick.changeSetting", "return stick.changeSetting")
            .brokenBy("history.keep(stick); return stick.changeSetting",
                "if (stick.settings[setting] != value) { history.keep(stick); } return stick.changeSetting");
        doc.says("Returns the previous value;", ChangesTest::setReturnsThePreviousValue)
            .brokenBy("return previous;", "return value;")
            .brokenBy("return previous;", "return FIRST[setting];");
        doc.says("BAD_VALUE if there is no such setting,", ChangesTest::setNoSuchSetting)
            .brokenBy("if (setting < 0 || setting >= SETTINGS || value < LEAST", "if (setting >= SETTINGS || value < LEAST")
            .brokenBy("if (setting < 0 || setting >= SETTINGS || value < LEAST", "if (setting < 0 || value < LEAST")
            .brokenBy("if (setting < 0 || setting >= SETTINGS || value < LEAST",
                "if (setting < 0 || setting >= SETTINGS - 1 || value < LEAST")
            .brokenBy("if (setting < 0 || setting >= SETTINGS || value < LEAST",
                "if (setting < 1 || setting >= SETTINGS || value < LEAST")
            .brokenBy("public int set(int setting, int value) {",
                "public int set(int setting, int value) { if (setting < 0 || setting > 6) { return NO_SUCH; }");
        doc.says("or the value is out of its range.", ChangesTest::setOutOfRange)
            .brokenBy("value < LEAST[setting]", "value < LEAST[setting] - 1")
            .brokenBy("value < LEAST[setting]", "value <= LEAST[setting]")
            .brokenBy("value > MOST[setting]", "value > MOST[setting] + 1")
            .brokenBy("value > MOST[setting]", "value >= MOST[setting]");
    }

    private static void setChanges() {
        StickRests s = new StickRests();
        int[] values = {9, 5, 7, 90, 140, 10, 3};
        for (int setting = 0; setting < 7; setting++) {
            s.set(setting, values[setting]);
        }
        for (int setting = 0; setting < 7; setting++) {
            due("setting " + setting, s.count(10 + setting), values[setting]);
        }
    }

    private static void setIsAChange() {
        oneChange("set(0, 9)", 8, s -> s.set(0, 9));
        oneChange("set(1, 9)", 6, s -> s.set(1, 9));
        oneChange("set(2, 8), the value that it has", 8, s -> s.set(2, 8));
        oneChange("set(5, 12), the value that it has", 12, s -> s.set(5, 12));
    }

    private static void setReturnsThePreviousValue() {
        StickRests s = new StickRests();
        due("the first value", s.set(3, 60), 100);
        due("the value set ahead", s.set(3, 127), 60);
        due("the value that it has", s.set(3, 127), 127);
        due("0", s.set(2, 0) * 100 + s.set(2, 1), 800);
    }

    private static void setNoSuchSetting() {
        StickRests s = new StickRests();
        for (int setting : new int[] {-1, 7, 8, Integer.MAX_VALUE, Integer.MIN_VALUE}) {
            due("set(" + setting + ", 5)", s.set(setting, 5), -2);
        }
        due("set(0, 5)", s.set(0, 5), 8);
        due("set(6, 5)", s.set(6, 5), 4);
    }

    private static void setOutOfRange() {
        int[] least = {1, 1, 0, 60, 100, 2, 0};
        int[] most = {64, 30, 20, 127, 200, 60, 20};
        for (int setting = 0; setting < 7; setting++) {
            StickRests s = new StickRests();
            String call = "set(" + setting + ", ";
            due(call + "1 less)", s.set(setting, least[setting] - 1), -2);
            due(call + "1 more)", s.set(setting, most[setting] + 1), -2);
            due(call + "MIN)", s.set(setting, Integer.MIN_VALUE), -2);
            due(call + "MAX)", s.set(setting, Integer.MAX_VALUE), -2);
            due("changes", s.count(18), 0);
            s.set(setting, least[setting]);
            due(call + "the least)", s.set(setting, most[setting]), least[setting]);
            due(call + "the most)", s.count(10 + setting), most[setting]);
        }
    }

    // ---- promise 3

    private static void sample(Sentences doc) {
        doc.part("Promise 3: sample");
        doc.says("A sample comes.", ChangesTest::sampleComes)
            .brokenBy("return takeAlike(x, y, 1);", "return takeAlike(x, y, 2);")
            .brokenBy("return takeAlike(x, y, 1);", "return takeAlike(y, x, 1);")
            .brokenBy("return takeAlike(x, y, 1);", "return takeAlike(x, y, 0);");
        doc.says("This is a change.", ChangesTest::sampleIsAChange)
            .brokenBy("history.keep(stick); for", "for")
            .brokenBy("history.keep(stick); for", "if (stick.stillWith(x, y) == 0) { history.keep(stick); } for");
        doc.says("- `x`: 0 to 255, likewise y", ChangesTest::sampleRange)
            .brokenBy("x >= 0 && x <= AXIS_END", "x > 0 && x <= AXIS_END")
            .brokenBy("x >= 0 && x <= AXIS_END", "x >= 0 && x < AXIS_END")
            .brokenBy("y >= 0 && y <= AXIS_END", "y > 0 && y <= AXIS_END")
            .brokenBy("y >= 0 && y <= AXIS_END", "y >= 0 && y < AXIS_END");
        doc.says("Returns 1000 * (what x tells, and 100) and what y tells and 100;", ChangesTest::sampleReturns)
            .brokenBy("return stick.telling();", "return packed(stick.tellY, stick.tellX);")
            .brokenBy("return stick.telling();", "return SIGNED * stick.tellX + stick.tellY;")
            .brokenBy("tell(telling);", "");
        doc.says("BAD_VALUE if x or y is out of range;", ChangesTest::sampleOutOfRange)
            .brokenBy("x >= 0 && x <= AXIS_END", "x >= -1 && x <= AXIS_END")
            .brokenBy("x >= 0 && x <= AXIS_END", "x >= 0 && x <= AXIS_END + 1")
            .brokenBy("y >= 0 && y <= AXIS_END", "y >= -1 && y <= AXIS_END")
            .brokenBy("y >= 0 && y <= AXIS_END", "y >= 0 && y <= AXIS_END + 1")
            .brokenBy("x >= 0 && x <= AXIS_END && y", "x >= 0 && x <= AXIS_END || y");
        doc.says("NOT_POSSIBLE if there have been 9999 samples.", ChangesTest::sampleAtTheBound)
            .brokenBy("MOST_SAMPLES = 9999", "MOST_SAMPLES = 9998")
            .brokenBy("MOST_SAMPLES = 9999", "MOST_SAMPLES = 10000")
            .brokenBy("> MOST_SAMPLES ? NOT_POSSIBLE", "> MOST_SAMPLES ? TOO_MANY");
    }

    private static void sampleComes() {
        StickRests s = new StickRests();
        s.sample(255, 74);
        due("samples", s.count(0), 1);
        due("x", s.of(0, 2), 255);
        due("y", s.of(1, 2), 74);
        s.sample(0, 0);
        due("samples", s.count(0), 2);
        due("x", s.of(0, 2), 0);
        due("y", s.of(1, 2), 0);
    }

    private static void sampleIsAChange() {
        oneChange("sample(0, 5)", 25025, s -> s.sample(0, 5));
        oneChange("sample(131, 125)", 100100, s -> s.sample(131, 125));
        oneChange("sample(200, 128), the same as ahead", 168100, s -> s.sample(200, 128));
    }

    private static void sampleRange() {
        due("sample(0, 128)", new StickRests().sample(0, 128), 100);
        due("sample(255, 128)", new StickRests().sample(255, 128), 200100);
        due("sample(128, 0)", new StickRests().sample(128, 0), 100000);
        due("sample(128, 255)", new StickRests().sample(128, 255), 100200);
        due("sample(0, 255)", new StickRests().sample(0, 255), 25175);
    }

    private static void sampleReturns() {
        due("both 0", new StickRests().sample(128, 128), 100100);
        due("x 46, y 0", new StickRests().sample(178, 128), 146100);
        due("x -100, y 1", new StickRests().sample(0, 135), 101);
        due("x 100, y -50", new StickRests().sample(255, 75), 200050);
        StickRests s = new StickRests();
        s.hold(140, 128, 12);
        due("drifting", s.sample(140, 128), 100100);
    }

    private static final int[][] OUTSIDE = {{-1, 0}, {256, 0}, {0, -1}, {0, 256}, {-1, 256}, {Integer.MIN_VALUE, 5},
        {Integer.MAX_VALUE, 5}, {5, Integer.MAX_VALUE}, {5, Integer.MIN_VALUE}};

    private static void sampleOutOfRange() {
        StickRests s = new StickRests();
        for (int[] at : OUTSIDE) {
            due("sample(" + at[0] + ", " + at[1] + ")", s.sample(at[0], at[1]), -2);
        }
        due("samples", s.count(0), 0);
    }

    private static void sampleAtTheBound() {
        StickRests s = Sticks.sampled(9998);
        due("the 9999th", s.sample(128, 128), 100100);
        due("the 10000th", s.sample(128, 128), -5);
        due("samples", s.count(0), 9999);
        s.undo();
        due("the 9999th again", s.sample(255, 128), 200100);
        due("the 10000th again", s.sample(255, 128), -5);
    }

    // ---- promise 4

    private static void hold(Sentences doc) {
        doc.part("Promise 4: hold");
        doc.says("Samples come that are all the same.", ChangesTest::holdIsManySamples)
            .brokenBy("for (int taken = 0; taken < many; taken++) { stick",
                "for (int taken = 1; taken < many; taken++) { stick")
            .brokenBy("for (int taken = 0; taken < many; taken++) { stick",
                "for (int taken = 0; taken <= many; taken++) { stick")
            .brokenBy("return takeAlike(x, y, many);", "return takeAlike(y, x, many);");
        doc.says("This is a change.", ChangesTest::holdIsAChange)
            .brokenBy("history.keep(stick); for", "for")
            .brokenBy("history.keep(stick); for (int taken = 0; taken < many; taken++) {",
                "for (int taken = 0; taken < many; taken++) { history.keep(stick);");
        doc.says("- `many`: 1 to 200", ChangesTest::holdRange)
            .brokenBy("if (many < 1 || many > MOST_HELD)", "if (many < 2 || many > MOST_HELD)")
            .brokenBy("MOST_HELD = 200", "MOST_HELD = 199");
        doc.says("Returns as sample() for the last one;", ChangesTest::holdReturnsTheLastOne)
            .brokenBy("return stick.telling();", "return many > 1 ? trial.telling() : stick.telling();")
            .brokenBy("history.keep(stick); for", "int told = stick.tellingAt(x, y); if (many > 1) { "
                + "history.keep(stick); for (int i = 0; i < many; i++) { stick.take(x, y); } return told; } history.keep(stick); for");
        doc.says("BAD_VALUE if an argument is out of range;", ChangesTest::holdOutOfRange)
            .brokenBy("if (many < 1 || many > MOST_HELD)", "if (many < 0 || many > MOST_HELD)")
            .brokenBy("MOST_HELD = 200", "MOST_HELD = 201")
            .brokenBy("return takeAlike(x, y, many);", "return takeAlike(x & 255, y, many);")
            .brokenBy("return takeAlike(x, y, many);", "return takeAlike(x, y & 255, many);");
        doc.says("NOT_POSSIBLE if there would have been more than 9999 samples.", ChangesTest::holdAtTheBound)
            .brokenBy("samples + many > MOST_SAMPLES", "samples + many >= MOST_SAMPLES")
            .brokenBy("samples + many > MOST_SAMPLES", "samples + many > MOST_SAMPLES + 1")
            .brokenBy("samples + many > MOST_SAMPLES", "samples >= MOST_SAMPLES");
    }

    private static void holdIsManySamples() {
        int[][] held = {{128, 128, 1}, {132, 124, 7}, {140, 120, 30}, {255, 100, 200}, {134, 134, 100}, {123, 129, 2}};
        StickRests held1 = new StickRests();
        StickRests one = new StickRests();
        for (int[] at : held) {
            held1.hold(at[0], at[1], at[2]);
            for (int i = 0; i < at[2]; i++) {
                one.sample(at[0], at[1]);
            }
            CHECKS.dueText("hold(" + at[0] + ", " + at[1] + ", " + at[2] + ")", Sticks.state(held1), Sticks.state(one));
        }
    }

    private static void holdIsAChange() {
        oneChange("hold(0, 5, 9)", 25025, s -> s.hold(0, 5, 9));
        oneChange("hold(130, 126, 200)", 100100, s -> s.hold(130, 126, 200));
    }

    private static void holdRange() {
        StickRests s = new StickRests();
        due("hold(228, 128, 1)", s.hold(228, 128, 1), 200100);
        due("samples", s.count(0), 1);
        due("hold(228, 128, 200)", s.hold(228, 128, 200), 200100);
        due("samples", s.count(0), 201);
    }

    private static void holdReturnsTheLastOne() {
        due("twelve", new StickRests().hold(140, 128, 12), 106100);
        due("thirteen, the last one drifts", new StickRests().hold(140, 128, 13), 100100);
    }

    private static void holdOutOfRange() {
        StickRests s = new StickRests();
        for (int many : new int[] {0, -1, 201, Integer.MAX_VALUE, Integer.MIN_VALUE}) {
            due("hold(0, 0, " + many + ")", s.hold(0, 0, many), -2);
        }
        for (int[] at : OUTSIDE) {
            due("hold(" + at[0] + ", " + at[1] + ", 2)", s.hold(at[0], at[1], 2), -2);
        }
        due("samples", s.count(0), 0);
    }

    private static void holdAtTheBound() {
        StickRests s = Sticks.sampled(9998);
        due("two more", s.hold(128, 128, 2), -5);
        due("samples", s.count(0), 9998);
        due("one more", s.hold(128, 128, 1), 100100);
        due("and one more", s.hold(128, 128, 1), -5);
        due("samples", s.count(0), 9999);
        s = Sticks.sampled(9800);
        due("200 more", s.hold(128, 128, 200), -5);
        due("199 more", s.hold(128, 128, 199), 100100);
        due("samples", s.count(0), 9999);
    }

    // ---- promise 5

    private static void press(Sentences doc) {
        doc.part("Promise 5: press");
        doc.says("A button is pressed.", ChangesTest::pressPresses)
            .brokenBy("down |= 1 << button;", "down = 1 << button;")
            .brokenBy("shaking = settings[SHAKE];", "");
        doc.says("This is a change.", () -> oneChange("press(0)", 5, s -> s.press(0)))
            .brokenBy("history.keep(stick); return stick.pushDown", "return stick.pushDown");
        doc.says("Returns the buttons that are down then, as a set;", ChangesTest::pressReturnsTheSet)
            .brokenBy("shaking = settings[SHAKE]; return down;", "shaking = settings[SHAKE]; return 1 << button;")
            .brokenBy("shaking = settings[SHAKE]; return down;", "shaking = settings[SHAKE]; return down - (1 << button);");
        doc.says("NO_SUCH if there is no such button;", ChangesTest::pressNoSuchButton)
            .brokenBy("button >= 0 && button < BUTTONS", "button >= -1 && button < BUTTONS")
            .brokenBy("button >= 0 && button < BUTTONS", "button >= 0 && button <= BUTTONS")
            .brokenBy("button >= 0 && button < BUTTONS", "button < BUTTONS")
            .brokenBy("button >= 0 && button < BUTTONS", "button >= 0");
        doc.says("NOT_POSSIBLE if it is down.", ChangesTest::pressIsDown)
            .brokenBy("return isDown(button) ? NOT_POSSIBLE : ALLOWED;", "return ALLOWED;")
            .brokenBy("return isDown(button) ? NOT_POSSIBLE : ALLOWED;", "return down != 0 ? NOT_POSSIBLE : ALLOWED;")
            .brokenBy("return isDown(button) ? NOT_POSSIBLE : ALLOWED;", "return isDown(button) ? NO_SUCH : ALLOWED;");
    }

    private static void pressPresses() {
        StickRests s = new StickRests();
        s.press(1);
        s.press(6);
        due("buttons", s.count(6), 66);
        due("shakes", s.count(3), 4);
        due("samples", s.count(0), 0);
    }

    private static void pressReturnsTheSet() {
        StickRests s = new StickRests();
        due("press(3)", s.press(3), 8);
        due("press(7)", s.press(7), 136);
        due("press(0)", s.press(0), 137);
        s.letUp(3);
        due("press(1)", s.press(1), 131);
    }

    private static final int[] NO_BUTTONS = {-1, 8, 9, 32, 33, -32, Integer.MAX_VALUE, Integer.MIN_VALUE};

    private static void pressNoSuchButton() {
        StickRests s = new StickRests();
        for (int button : NO_BUTTONS) {
            due("press(" + button + ")", s.press(button), -1);
        }
        due("press(0)", s.press(0), 1);
        due("press(7)", s.press(7), 129);
        for (int button : NO_BUTTONS) {
            due("press(" + button + ") with 0 and 7 down", s.press(button), -1);
        }
        due("changes", s.count(18), 2);
    }

    private static void pressIsDown() {
        for (int button = 0; button < 8; button++) {
            StickRests s = new StickRests();
            s.press(button);
            due("press(" + button + ") again", s.press(button), -5);
            due("press of another one", s.press(7 - button), 1 << button | 1 << 7 - button);
            s.letUp(button);
            due("press(" + button + ") when it is up again", s.press(button), 1 << button | 1 << 7 - button);
        }
    }

    // ---- promise 6

    private static void letUp(Sentences doc) {
        doc.part("Promise 6: letUp");
        doc.says("A button is let up.", ChangesTest::letUpLetsUp)
            .brokenBy("down &= ~(1 << button);", "down = 0;")
            .brokenBy("down &= ~(1 << button);", "");
        doc.says("This is a change.", () -> oneChange("letUp(2)", 0, s -> s.letUp(2)))
            .brokenBy("history.keep(stick); return stick.release", "return stick.release");
        doc.says("Returns the buttons that are down then, as a set;", ChangesTest::letUpReturnsTheSet)
            .brokenBy("down &= ~(1 << button); return down;", "down &= ~(1 << button); return down | 1 << button;")
            .brokenBy("down &= ~(1 << button); return down;", "down &= ~(1 << button); return Integer.bitCount(down);");
        doc.says("NO_SUCH if there is no such button;", ChangesTest::letUpNoSuchButton)
            .brokenBy("button >= 0 && button < BUTTONS", "button >= -1 && button < BUTTONS")
            .brokenBy("button >= 0 && button < BUTTONS", "button >= 0 && button <= BUTTONS")
            .brokenBy("button >= 0 && button < BUTTONS", "button < BUTTONS")
            .brokenBy("button >= 0 && button < BUTTONS", "button >= 0");
        doc.says("NOT_POSSIBLE if it is up.", ChangesTest::letUpIsUp)
            .brokenBy("return isDown(button) ? ALLOWED : NOT_POSSIBLE;", "return ALLOWED;")
            .brokenBy("return isDown(button) ? ALLOWED : NOT_POSSIBLE;", "return down != 0 ? ALLOWED : NOT_POSSIBLE;")
            .brokenBy("return isDown(button) ? ALLOWED : NOT_POSSIBLE;", "return isDown(button) ? ALLOWED : NO_SUCH;");
    }

    private static StickRests withAllDown() {
        StickRests s = new StickRests();
        for (int button = 0; button < 8; button++) {
            s.press(button);
        }
        return s;
    }

    private static void letUpLetsUp() {
        StickRests s = withAllDown();
        s.letUp(1);
        s.letUp(6);
        due("buttons", s.count(6), 255 - 66);
    }

    private static void letUpReturnsTheSet() {
        StickRests s = withAllDown();
        due("letUp(3)", s.letUp(3), 247);
        due("letUp(7)", s.letUp(7), 119);
        due("letUp(0)", s.letUp(0), 118);
        s = new StickRests();
        s.press(5);
        due("letUp(5), the only one", s.letUp(5), 0);
    }

    private static void letUpNoSuchButton() {
        for (StickRests s : new StickRests[] {new StickRests(), withAllDown()}) {
            int changes = s.count(18);
            for (int button : NO_BUTTONS) {
                due("letUp(" + button + ")", s.letUp(button), -1);
            }
            due("changes", s.count(18), changes);
        }
    }

    private static void letUpIsUp() {
        for (int button = 0; button < 8; button++) {
            StickRests s = new StickRests();
            due("letUp(" + button + ") of a new object", s.letUp(button), -5);
            s.press(7 - button);
            due("letUp(" + button + ") with another one down", s.letUp(button), -5);
            s.press(button);
            due("letUp(" + button + ")", s.letUp(button), 1 << 7 - button);
            due("letUp(" + button + ") again", s.letUp(button), -5);
        }
    }

    // ---- promise 7

    private static void reset(Sentences doc) {
        doc.part("Promise 7: reset");
        doc.says("The rest is put to the middle: 2048, 2048,", ChangesTest::resetRest)
            .brokenBy("restX = MIDDLE; restY = MIDDLE; zone = settings[ZONE]; still = 0;",
                "restX = MIDDLE; zone = settings[ZONE]; still = 0;")
            .brokenBy("restX = MIDDLE; restY = MIDDLE; zone = settings[ZONE]; still = 0;",
                "restY = MIDDLE; zone = settings[ZONE]; still = 0;");
        doc.says("the zone is ZONE,", ChangesTest::resetZone)
            .brokenBy("zone = settings[ZONE]; still = 0;", "still = 0;")
            .brokenBy("zone = settings[ZONE]; still = 0;", "zone = FIRST[ZONE]; still = 0;");
        doc.says("and the count of still samples is 0;", ChangesTest::resetStill)
            .brokenBy("zone = settings[ZONE]; still = 0;", "zone = settings[ZONE];")
            .brokenBy("zone = settings[ZONE]; still = 0;", "zone = settings[ZONE]; still = 0; latestX = -9;");
        doc.says("what it tells stays.", ChangesTest::resetTells)
            .brokenBy("zone = settings[ZONE]; still = 0;", "zone = settings[ZONE]; still = 0; tellX = 0;")
            .brokenBy("zone = settings[ZONE]; still = 0;", "zone = settings[ZONE]; still = 0; tellY = 0;")
            .brokenBy("zone = settings[ZONE]; still = 0;", "zone = settings[ZONE]; still = 0; shaking = 0;")
            .brokenBy("zone = settings[ZONE]; still = 0;", "zone = settings[ZONE]; still = 0; down = 0;");
        doc.says("This is a change.", ChangesTest::resetIsAChange)
            .brokenBy("history.keep(stick); return stick.toMiddle();", "return stick.toMiddle();")
            .brokenBy("history.keep(stick); return stick.toMiddle();",
                "if (stick.restX != MIDDLE) { history.keep(stick); } return stick.toMiddle();");
        doc.says("Returns by how many sixteenths the rest was off the middle, both axes together, without signs.",
                ChangesTest::resetReturns)
            .brokenBy("Math.abs(restX - MIDDLE) + Math.abs(restY - MIDDLE)", "Math.abs(restX + restY - 2 * MIDDLE)")
            .brokenBy("Math.abs(restX - MIDDLE) + Math.abs(restY - MIDDLE)", "Math.abs(restX - MIDDLE)")
            .brokenBy("Math.abs(restX - MIDDLE) + Math.abs(restY - MIDDLE)", "Math.abs(restY - MIDDLE)")
            .brokenBy("Math.abs(restX - MIDDLE) + Math.abs(restY - MIDDLE)",
                "(Math.abs(restX - MIDDLE) + Math.abs(restY - MIDDLE)) / 16")
            .brokenBy("return off; }", "return Math.abs(restX - MIDDLE) + Math.abs(restY - MIDDLE); }");
    }

    private static void resetRest() {
        StickRests s = Sticks.restingAt(140, 100);
        due("ahead", s.of(0, 0) * 10000 + s.of(1, 0), 2240 * 10000 + 1600);
        s.reset();
        due("rest of x", s.of(0, 0), 2048);
        due("rest of y", s.of(1, 0), 2048);
    }

    private static void resetZone() {
        StickRests s = Sticks.fresh(Sticks.ZONE, 9);
        s.hold(135, 128, 2);
        due("ahead", s.count(1), 11);
        s.reset();
        due("zone", s.count(1), 9);
    }

    private static void resetStill() {
        StickRests s = new StickRests();
        s.hold(200, 128, 5);
        due("ahead", s.count(2), 4);
        s.reset();
        due("still ones", s.count(2), 0);
        s.sample(201, 127);
        due("the sample ahead is still known", s.count(2), 1);
    }

    private static void resetTells() {
        StickRests s = new StickRests();
        s.press(1);
        s.sample(200, 56);
        s.reset();
        due("x tells", s.of(0, 1), 170);
        due("y tells", s.of(1, 1), 30);
        due("samples", s.count(0), 1);
        due("latest x", s.of(0, 2), 200);
        due("shakes", s.count(3), 3);
        due("buttons", s.count(6), 2);
        s.sample(128, 128);
        due("let go behind it", s.count(4), 1);
    }

    private static void resetIsAChange() {
        oneChange("reset()", 42, StickRests::reset);
        StickRests s = new StickRests();
        due("reset() of a new object", s.reset(), 0);
        due("is a change, though nothing is different", s.count(18), 1);
    }

    private static void resetReturns() {
        due("16 * 12 and 16 * 28", Sticks.restingAt(140, 100).reset(), 16 * 12 + 16 * 28);
        due("16 * 28 and 16 * 12", Sticks.restingAt(100, 140).reset(), 16 * 28 + 16 * 12);
        due("nothing", new StickRests().reset(), 0);
        StickRests s = Sticks.fresh(Sticks.SLOW, 64);
        s.sample(132, 128);
        due("one sixteenth", s.reset(), 1);
        due("nothing then", s.reset(), 0);
    }
}
