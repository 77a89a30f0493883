import java.util.List;
import java.util.function.Supplier;
import java.util.function.ToIntFunction;

/** The terms of the document, but for a sample and for texts: conventions, settings, the rest, the zone, buttons, the face. */
public final class TermsTest {
    private static final Checks CHECKS = new Checks();

    private static final int[] FIRST = {8, 6, 8, 100, 150, 12, 4};
    private static final int[] LEAST = {1, 1, 0, 60, 100, 2, 0};
    private static final int[] MOST = {64, 30, 20, 127, 200, 60, 20};

    public static void main(String[] args) {
        sentences().test("TermsTest");
    }

    static Sentences sentences() {
        Sentences doc = new Sentences(CHECKS);
        conventions(doc);
        settings(doc);
        restAndZone(doc);
        buttons(doc);
        face(doc);
        return doc;
    }

    private static void due(String call, long got, long want) {
        CHECKS.due(call, got, want);
    }

    // ---- conventions

    private static void conventions(Sentences doc) {
        doc.part("Terms");
        doc.says("CONVENTIONS. A method that fails returns one of the error codes NO_SUCH (-1), BAD_VALUE (-2), BAD_TEXT (-3), "
                + "TOO_MANY (-4) and NOT_POSSIBLE (-5);", TermsTest::errorCodes)
            .brokenBy("NO_SUCH = -1, BAD_VALUE = -2", "NO_SUCH = -2, BAD_VALUE = -1")
            .brokenBy("BAD_TEXT = -3, TOO_MANY = -4", "BAD_TEXT = -4, TOO_MANY = -3")
            .brokenBy("NOT_POSSIBLE = -5, NONE = -6", "NOT_POSSIBLE = -6, NONE = -5");
        doc.says("it names its errors in the order in which they are checked, and the first one that applies is returned.",
                TermsTest::errorOrder)
            .brokenBy("public int of(int axis, int what) {",
                "public int of(int axis, int what) { if (what < 0 || what > 3) { return BAD_VALUE; }")
            .brokenBy("if (rank < 0 || rank >= unlike",
                "if (what < 0 || what > 3) { return BAD_VALUE; } if (rank < 0 || rank >= unlike")
            .brokenBy("public int edge(int axis, int up) {",
                "public int edge(int axis, int up) { if (up != 0 && up != 1) { return BAD_VALUE; }")
            .brokenBy("int refusalOfSamples(int x, int y, int many) {",
                "int refusalOfSamples(int x, int y, int many) { if (samples + many > MOST_SAMPLES) { return NOT_POSSIBLE; }")
            .brokenBy("public int hold(int x, int y, int many) {",
                "public int hold(int x, int y, int many) { if (stick.samples == MOST_SAMPLES) { return NOT_POSSIBLE; }")
            .brokenBy("int many = charactersIn(characters);",
                "int many = charactersIn(characters); if (length == PAD_SIZE) { return TOO_MANY; }");
        doc.says("A call that returns an error changes nothing.", TermsTest::errorsChangeNothing)
            .brokenBy("public int set(int setting, int value) {",
                "public int set(int setting, int value) { history.keep(stick);")
            .brokenBy("if (many < 1 || many > MOST_HELD) {", "if (many < 1 || many > MOST_HELD) { stick.still = 0;")
            .brokenBy("if (refusal != ALLOWED) { return refusal; } history.keep(stick); for",
                "history.keep(stick); if (refusal != ALLOWED) { return refusal; } for")
            .brokenBy("private int takeAlike(int x, int y, int many) {", "private int takeAlike(int x, int y, int many) { "
                + "for (int i = stick.samples; i < MOST_SAMPLES && stick.samples + many > MOST_SAMPLES; i++) { stick.take(x, y); }")
            .brokenBy("int refusal = stick.refusalOfPress(button);",
                "int refusal = stick.refusalOfPress(button); history.keep(stick);")
            .brokenBy("return isDown(button) ? NOT_POSSIBLE : ALLOWED;",
                "shaking = settings[SHAKE]; return isDown(button) ? NOT_POSSIBLE : ALLOWED;")
            .brokenBy("int refusal = stick.refusalOfLetUp(button);",
                "int refusal = stick.refusalOfLetUp(button); history.keep(stick);")
            .brokenBy("if (pad.firstFault() != NONE) {", "if (pad.firstFault() != NONE) { pad.empty();")
            .brokenBy("return TOO_MANY;", "length = PAD_SIZE; return TOO_MANY;")
            .brokenBy("if (many == 0) { return BAD_VALUE; }", "if (many == 0) { length = 0; return BAD_VALUE; }")
            .brokenBy("Stick saved = slots[slot]; if (saved == null) { return",
                "Stick saved = slots[slot]; history.keep(stick); if (saved == null) { return");
        doc.says("NONE (-6) is not an error; it is returned only if no error applies.", TermsTest::noneIsNoError)
            .brokenBy("public int of(int axis, int what) {",
                "public int of(int axis, int what) { if (axis != 0 && what > 1 && stick.samples == 0) { return NONE; }")
            .brokenBy("default: return BAD_VALUE; } } int number",
                "default: return samples == 0 ? NONE : BAD_VALUE; } } int number")
            .brokenBy("public int learnedIn(int x, int y) {",
                "public int learnedIn(int x, int y) { if (y > 200) { return NONE; }")
            .brokenBy("public int edge(int axis, int up) {",
                "public int edge(int axis, int up) { if (stick.restX == 16 * AXIS_END && up != 0) { return NONE; }")
            .brokenBy("public int driftsIn(int x, int y) {",
                "public int driftsIn(int x, int y) { if (x < 0) { return NONE; }");
        doc.says("Everything is numbered from 0.", TermsTest::numberedFrom0)
            .brokenBy("if (axis != 0 && axis != 1) { return NO_SUCH; } return axis == 0",
                "if (axis != 1 && axis != 2) { return NO_SUCH; } return axis == 1")
            .brokenBy("return button >= 0 && button < BUTTONS;", "return button >= 1 && button <= BUTTONS;")
            .brokenBy("public int direction(int rank, int what) { return stick.directions.about(rank, what); }",
                "public int direction(int rank, int what) { return stick.directions.about(rank - 1, what); }")
            .brokenBy("public int save(int slot) { if (slot < 0", "public int save(int slot) { if (slot < 1")
            .brokenBy("if (!readOrder()) { return place; }", "if (!readOrder()) { return place + 1; }");
        doc.says("Divisions are rounded towards 0.", TermsTest::roundedTowards0)
            .brokenBy("return parts == 0 ? 0 : whole / parts;", "return parts == 0 ? 0 : Math.floorDiv(whole, parts);")
            .brokenBy("return parts == 0 ? 0 : whole / parts;", "return parts == 0 ? 0 : (whole + parts / 2) / parts;")
            .brokenBy("return restX / 16;", "return (restX + 15) / 16;")
            .brokenBy("return restY / 16;", "return (restY + 8) / 16;");
        doc.says("Sets of buttons are bit masks.", TermsTest::setsOfButtons)
            .brokenBy("down |= 1 << button;", "down |= button + 1;")
            .brokenBy("case 6: return down;", "case 6: return Integer.bitCount(down);");
        doc.says("What can be below 0 is told with an offset.", TermsTest::offsets)
            .brokenBy("return stick.telling();", "return SIGNED * stick.tellX + stick.tellY;")
            .brokenBy("case 1: return tells + FULL;", "case 1: return tells;")
            .brokenBy("latest - rest / 16 + SIGNED;", "latest - rest / 16;")
            .brokenBy("case 0: return told / 3;", "case 0: return told / 3 - 1;")
            .brokenBy("case 1: return told % 3;", "case 1: return told % 3 - 1;");
    }

    private static final String FULL_PAD = "s1,1;s1,1;s1,1;s1,1;s1,1;s1,1;s1,1;s1,1;s1,1;s1,1;s1,1;s1,1;s1,1;s1,1;s1,1;s1,10";

    private static void errorCodes() {
        due("press(8)", Sticks.fresh().press(8), -1);
        due("sample(256, 0)", Sticks.fresh().sample(256, 0), -2);
        due("carryOut()", Sticks.fresh().carryOut(), -3);
        due("put('1') on a full pad", Sticks.written(FULL_PAD).put('1'), -4);
        due("undo()", Sticks.fresh().undo(), -5);
    }

    private static void errorOrder() {
        due("of(2, 4)", Sticks.fresh().of(2, 4), -1);
        due("of(-1, -1)", Sticks.fresh().of(-1, -1), -1);
        due("direction(0, 4) without a sample", Sticks.fresh().direction(0, 4), -1);
        due("edge(2, 2)", Sticks.fresh().edge(2, 2), -1);
        StickRests s = Sticks.sampled(9999);
        due("sample(256, 0), the 10000th", s.sample(256, 0), -2);
        due("hold(0, -1, 1), the 10000th", s.hold(0, -1, 1), -2);
        due("hold(0, 0, 201), the 10000th", s.hold(0, 0, 201), -2);
        s = Sticks.written(FULL_PAD);
        due("put(0) on a full pad", s.put(0), -2);
        due("put(32) on a full pad", s.put(32), -2);
    }

    /** A stick with something in all that a call could change; its pad has a fault, and slot 1 is empty. */
    private static StickRests used() {
        StickRests s = Sticks.fresh(Sticks.STILL, 5);
        s.hold(132, 124, 3);
        s.save(0);
        s.sample(200, 128);
        s.press(2);
        s.hold(140, 128, 3);
        s.press(6);
        s.letUp(2);
        s.sample(140, 128);
        Sticks.write(s, "s1,2;b");
        return s;
    }

    private static StickRests withAlmostFullPad() {
        return Sticks.written(FULL_PAD.substring(0, 79));
    }

    private static void refused(String call, int error, Supplier<StickRests> made, ToIntFunction<StickRests> asked) {
        StickRests s = made.get();
        due(call, asked.applyAsInt(s), error);
        CHECKS.dueText("what there is behind " + call, Sticks.everything(s), Sticks.everything(made.get()));
    }

    private static void errorsChangeNothing() {
        refused("set(7, 1)", -2, TermsTest::used, s -> s.set(7, 1));
        refused("set(1, 31)", -2, TermsTest::used, s -> s.set(1, 31));
        refused("set(2, -1)", -2, TermsTest::used, s -> s.set(2, -1));
        refused("sample(256, 0)", -2, TermsTest::used, s -> s.sample(256, 0));
        refused("sample(140, -1)", -2, TermsTest::used, s -> s.sample(140, -1));
        refused("sample, the 10000th", -5, () -> Sticks.sampled(9999), s -> s.sample(200, 128));
        refused("hold(140, 128, 0)", -2, TermsTest::used, s -> s.hold(140, 128, 0));
        refused("hold(140, 128, 201)", -2, TermsTest::used, s -> s.hold(140, 128, 201));
        refused("hold(140, 256, 3)", -2, TermsTest::used, s -> s.hold(140, 256, 3));
        refused("hold, one too many", -5, () -> Sticks.sampled(9998), s -> s.hold(200, 128, 2));
        refused("press(8)", -1, TermsTest::used, s -> s.press(8));
        refused("press(6)", -5, TermsTest::used, s -> s.press(6));
        refused("letUp(-1)", -1, TermsTest::used, s -> s.letUp(-1));
        refused("letUp(2)", -5, TermsTest::used, s -> s.letUp(2));
        refused("of(2, 0)", -1, TermsTest::used, s -> s.of(2, 0));
        refused("of(0, 4)", -2, TermsTest::used, s -> s.of(0, 4));
        refused("direction(9, 0)", -1, TermsTest::used, s -> s.direction(9, 0));
        refused("direction(0, 4)", -2, TermsTest::used, s -> s.direction(0, 4));
        refused("count(19)", -2, TermsTest::used, s -> s.count(19));
        refused("wouldTell(-1, 0)", -2, TermsTest::used, s -> s.wouldTell(-1, 0));
        refused("learnedIn(0, 256)", -2, TermsTest::used, s -> s.learnedIn(0, 256));
        refused("edge(2, 0)", -1, TermsTest::used, s -> s.edge(2, 0));
        refused("edge(0, 2)", -2, TermsTest::used, s -> s.edge(0, 2));
        refused("driftsIn(256, 0)", -2, TermsTest::used, s -> s.driftsIn(256, 0));
        refused("put(0)", -2, TermsTest::used, s -> s.put(0));
        refused("put of a wrong code and a good one", -2, TermsTest::used, s -> s.put(127 << 8 | '0'));
        refused("put of a good code and a wrong one", -2, TermsTest::used, s -> s.put('0' << 8 | 32));
        refused("put of one too many", -4, TermsTest::withAlmostFullPad, s -> s.put(Sticks.number("00")));
        refused("carryOut() of a text with a fault", -3, TermsTest::used, StickRests::carryOut);
        refused("undo() of nothing", -5, () -> Sticks.written("b1"), StickRests::undo);
        refused("save(2)", -2, TermsTest::used, s -> s.save(2));
        refused("restore(-1)", -2, TermsTest::used, s -> s.restore(-1));
        refused("restore(1)", -5, TermsTest::used, s -> s.restore(1));
    }

    private static void noneIsNoError() {
        StickRests s = Sticks.fresh();
        due("of(0, 2) without a sample", s.of(0, 2), -6);
        due("of(2, 2) without a sample", s.of(2, 2), -1);
        due("of(-1, 3) without a sample", s.of(-1, 3), -1);
        due("of(0, 4) without a sample", s.of(0, 4), -2);
        due("learnedIn(128, 255)", s.learnedIn(128, 255), -6);
        due("learnedIn(128, 256)", s.learnedIn(128, 256), -2);
        due("driftsIn(0, 128)", s.driftsIn(0, 128), -6);
        due("driftsIn(-1, 128)", s.driftsIn(-1, 128), -2);
        s = Sticks.restingAt(255, 128);
        due("edge(0, 1) at the end", s.edge(0, 1), -6);
        due("edge(2, 1) at the end", s.edge(2, 1), -1);
        due("edge(0, 2) at the end", s.edge(0, 2), -2);
    }

    private static void numberedFrom0() {
        StickRests s = Sticks.fresh();
        due("set(0, 9)", s.set(0, 9), 8);
        due("count(0)", s.count(0), 0);
        s.sample(228, 128);
        due("of(0, 1)", s.of(0, 1), 200);
        due("of(1, 1)", s.of(1, 1), 100);
        due("direction(0, 0)", s.direction(0, 0), 2);
        due("direction(1, 0)", s.direction(1, 0), -1);
        due("press(0)", s.press(0), 1);
        due("letUp(0)", s.letUp(0), 0);
        due("save(0)", s.save(0), 1);
        due("restore(0)", s.restore(0), 1);
        due("fault of x", Sticks.written("x").fault(), 0);
    }

    private static void roundedTowards0() {
        StickRests s = Sticks.fresh(Sticks.SLOW, 7);
        s.sample(127, 129);
        due("2048 and -16 / 7", s.of(0, 0), 2046);
        due("2048 and 16 / 7", s.of(1, 0), 2050);
        due("-44 * 100 / 94 and 44 * 100 / 94", Sticks.fresh().sample(78, 178), 54146);
        due("-100 * 150 / 151 and -51 * 150 / 151", Sticks.fresh().sample(0, 74), 1050);
        due("100 * 150 / 151 and 51 * 150 / 151", Sticks.fresh().sample(255, 182), 199150);
        s = Sticks.fresh();
        s.hold(132, 132, 2);
        due("the rest is 2063", s.of(0, 0), 2063);
        due("2063 / 16 is 128", s.of(0, 3), 1004);
        due("so 8 more tell nothing in a zone of 8", s.wouldTell(136, 136), 100100);
        due("and 9 more do", s.wouldTell(137, 137), 101101);
    }

    private static void setsOfButtons() {
        StickRests s = Sticks.fresh();
        int set = 0;
        for (int button = 0; button < 8; button++) {
            set += 1 << button;
            due("press(" + button + ")", s.press(button), set);
        }
        due("all of them", s.count(6), 255);
        due("letUp(4)", s.letUp(4), 239);
        due("all but 4", s.count(6), 239);
    }

    private static void offsets() {
        StickRests s = Sticks.fresh();
        due("sample(0, 74)", s.sample(0, 74), 1050);
        due("wouldTell(0, 74)", s.wouldTell(0, 74), 1050);
        due("of(0, 1)", s.of(0, 1), 1);
        due("of(1, 1)", s.of(1, 1), 50);
        due("of(0, 3)", s.of(0, 3), 872);
        due("of(1, 3)", s.of(1, 3), 946);
        due("direction(0, 0)", s.direction(0, 0), 0);
        due("direction(0, 1)", s.direction(0, 1), 0);
    }

    // ---- settings

    private static String row(String name, int[] values, int setting, int more) {
        StringBuilder row = new StringBuilder(name).append(" = {");
        for (int i = 0; i < values.length; i++) {
            row.append(i == 0 ? "" : ", ").append(values[i] + (i == setting ? more : 0));
        }
        return row.append('}').toString();
    }

    private static Sentence brokenByOtherNumbers(Sentence sentence, int setting) {
        return sentence
            .brokenBy(row("FIRST", FIRST, 0, 0), row("FIRST", FIRST, setting, 1))
            .brokenBy(row("LEAST", LEAST, 0, 0), row("LEAST", LEAST, setting, 1))
            .brokenBy(row("LEAST", LEAST, 0, 0), row("LEAST", LEAST, setting, -1))
            .brokenBy(row("MOST", MOST, 0, 0), row("MOST", MOST, setting, 1))
            .brokenBy(row("MOST", MOST, 0, 0), row("MOST", MOST, setting, -1));
    }

    private static void settings(Sentences doc) {
        doc.part("Settings");
        doc.says("(In parentheses: range; first value.)", TermsTest::firstValues)
            .brokenBy(row("FIRST", FIRST, 0, 0), row("FIRST", LEAST, 0, 0));
        brokenByOtherNumbers(doc.says("SLOW (1 to 64; 8): how slowly the rest is learned;", TermsTest::slow), 0)
            .brokenBy("quotient(16 * x - restX, settings[SLOW])", "quotient(16 * x - restX, 8)");
        brokenByOtherNumbers(doc.says("ZONE (1 to 30; 6): the least dead zone;", TermsTest::zone), 1)
            .brokenBy("zone = Math.max(zone - 1, settings[ZONE]);", "zone = Math.max(zone - 1, 6);");
        brokenByOtherNumbers(doc.says("WIDE (0 to 20; 8): by how much it can be wider;", TermsTest::wide), 2)
            .brokenBy("settings[ZONE] + settings[WIDE]", "settings[ZONE] + 8");
        brokenByOtherNumbers(doc.says("REACH (60 to 127; 100): how far from the rest the stick tells the most;",
                TermsTest::reach), 3)
            .brokenBy("settings[REACH] - zone", "100 - zone");
        brokenByOtherNumbers(doc.says("CORNER (100 to 200; 150): what both axes can tell together;", TermsTest::corner), 4)
            .brokenBy("int corner = settings[CORNER];", "int corner = 150;");
        brokenByOtherNumbers(doc.says("STILL (2 to 60; 12): samples behind which a stick that is held still has drifted;",
                TermsTest::still), 5)
            .brokenBy("stillWith(x, y) >= settings[STILL]", "stillWith(x, y) >= 12");
        brokenByOtherNumbers(doc.says("SHAKE (0 to 20; 4): samples for which a press shakes.", TermsTest::shake), 6)
            .brokenBy("shaking = settings[SHAKE];", "shaking = 4;");
    }

    private static void firstValues() {
        StickRests s = Sticks.fresh();
        for (int setting = 0; setting < 7; setting++) {
            due("setting " + setting, s.count(10 + setting), FIRST[setting]);
        }
    }

    private static void range(int setting) {
        StickRests s = Sticks.fresh();
        String call = "set(" + setting + ", ";
        due(call + (LEAST[setting] - 1) + ")", s.set(setting, LEAST[setting] - 1), -2);
        due(call + (MOST[setting] + 1) + ")", s.set(setting, MOST[setting] + 1), -2);
        due(call + LEAST[setting] + ")", s.set(setting, LEAST[setting]), FIRST[setting]);
        due(call + MOST[setting] + ")", s.set(setting, MOST[setting]), LEAST[setting]);
        due(call + FIRST[setting] + ")", s.set(setting, FIRST[setting]), MOST[setting]);
    }

    private static int restBehind(StickRests s, int x) {
        s.sample(x, 128);
        return s.of(0, 0);
    }

    private static void slow() {
        range(0);
        due("64 more with SLOW 8", restBehind(Sticks.fresh(), 132), 2056);
        due("64 more with SLOW 1", restBehind(Sticks.fresh(Sticks.SLOW, 1), 132), 2112);
        due("64 more with SLOW 64", restBehind(Sticks.fresh(Sticks.SLOW, 64), 132), 2049);
        due("48 more with SLOW 64", restBehind(Sticks.fresh(Sticks.SLOW, 64), 131), 2048);
    }

    private static void zone() {
        range(1);
        for (int least : new int[] {1, 6, 30}) {
            StickRests s = Sticks.fresh(Sticks.ZONE, least);
            s.sample(128 + least, 128);
            due("wider than " + least, s.count(1), least + 1);
            s.hold(s.of(0, 0) / 16, 128, 5);
            due("never less than " + least, s.count(1), least);
        }
    }

    /** The zone behind many samples near its end, on both sides in turn: each widens it if it can be wider. */
    private static int widened(StickRests s) {
        for (int i = 0; i < 25; i++) {
            int far = s.count(1) - 1;
            s.sample(i % 2 == 0 ? 128 + far : 128 - far, 128);
        }
        return s.count(1);
    }

    private static void wide() {
        range(2);
        due("ZONE 6, WIDE 8", widened(Sticks.fresh(Sticks.SLOW, 64)), 14);
        due("ZONE 6, WIDE 0", widened(Sticks.fresh(Sticks.SLOW, 64, Sticks.WIDE, 0)), 6);
        due("ZONE 6, WIDE 20", widened(Sticks.fresh(Sticks.SLOW, 64, Sticks.WIDE, 20)), 26);
        due("ZONE 30, WIDE 20", Sticks.widest().count(1), 50);
    }

    private static void reach() {
        range(3);
        int[] reaches = {60, 100, 127};
        int[] justBelow = {98, 98, 99};
        for (int i = 0; i < reaches.length; i++) {
            StickRests s = Sticks.fresh(Sticks.REACH, reaches[i]);
            due("REACH " + reaches[i], s.wouldTell(128 + reaches[i], 128), 200100);
            due("one less than REACH " + reaches[i], s.wouldTell(127 + reaches[i], 128), 100000 + 1000 * justBelow[i] + 100);
        }
    }

    private static void corner() {
        range(4);
        due("CORNER 100", Sticks.fresh(Sticks.CORNER, 100).sample(255, 255), 150150);
        due("CORNER 102", Sticks.fresh(Sticks.CORNER, 102).sample(255, 255), 151151);
        due("CORNER 150", Sticks.fresh().sample(255, 255), 175175);
        due("CORNER 200", Sticks.fresh(Sticks.CORNER, 200).sample(255, 255), 200200);
    }

    private static void still() {
        range(5);
        for (int still : new int[] {2, 12, 60}) {
            StickRests s = Sticks.fresh(Sticks.STILL, still);
            s.hold(140, 128, still);
            due("STILL " + still + ", not yet", s.count(5), 0);
            s.sample(140, 128);
            due("STILL " + still, s.count(5), 1);
        }
    }

    private static void shake() {
        range(6);
        for (int shake : new int[] {0, 4, 20}) {
            StickRests s = Sticks.fresh(Sticks.SHAKE, shake);
            s.press(1);
            s.hold(132, 128, 30);
            due("SHAKE " + shake, s.count(9), shake);
        }
    }

    // ---- the rest, the zone

    private static void restAndZone(Sentences doc) {
        doc.says("The rest, the zone An axis is 0 to 255.", TermsTest::axisRange)
            .brokenBy("x >= 0 && x <= AXIS_END", "x >= 1 && x <= AXIS_END")
            .brokenBy("x >= 0 && x <= AXIS_END", "x >= -1 && x <= AXIS_END")
            .brokenBy("y >= 0 && y <= AXIS_END", "y >= 1 && y <= AXIS_END")
            .brokenBy("y >= 0 && y <= AXIS_END", "y >= -1 && y <= AXIS_END")
            .brokenBy("AXIS_END = 255", "AXIS_END = 254")
            .brokenBy("AXIS_END = 255", "AXIS_END = 256");
        doc.says("The rest is kept for each axis in sixteenths: 2048 at first (that is 128).", TermsTest::restAtFirst)
            .brokenBy("MIDDLE = 2048", "MIDDLE = 2047")
            .brokenBy("MIDDLE = 2048", "MIDDLE = 2032")
            .brokenBy("restY += quotient(16 * y - restY, settings[SLOW]);", "restY = restX;")
            .brokenBy("restX += quotient(16 * x - restX, settings[SLOW]);",
                "restX = (restX + quotient(16 * x - restX, settings[SLOW])) / 16 * 16;");
        doc.says("The stick is off by dx = x - rest / 16, likewise dy.", TermsTest::off)
            .brokenBy("return restX / 16;", "return (restX + 15) / 16;")
            .brokenBy("return restY / 16;", "return (restY + 1) / 16;")
            .brokenBy("return restX / 16;", "return 128;")
            .brokenBy("return restY / 16;", "return 128;");
        doc.says("The zone is ZONE at first,", TermsTest::zoneAtFirst)
            .brokenBy("zone = settings[ZONE]; } void becomeLike",
                "zone = settings[ZONE] + settings[WIDE]; } void becomeLike");
        doc.says("and whenever ZONE or WIDE is set (also to the value that it has).", TermsTest::zoneAnew)
            .brokenBy("if (setting == ZONE || setting == WIDE) {", "if (setting == ZONE) {")
            .brokenBy("if (setting == ZONE || setting == WIDE) {", "if (setting == WIDE) {")
            .brokenBy("if (setting == ZONE || setting == WIDE) {",
                "if ((setting == ZONE || setting == WIDE) && value != previous) {")
            .brokenBy("if (setting == ZONE || setting == WIDE) {", "if (setting != SLOW) {");
        doc.says("The stick is in the zone if neither dx nor dy, without their signs, is more than the zone.",
                TermsTest::inTheZone)
            .brokenBy("boolean rests = farthestOff(x, y) <= zone;", "boolean rests = farthestOff(x, y) < zone;")
            .brokenBy("boolean rests = farthestOff(x, y) <= zone;", "boolean rests = farthestOff(x, y) <= zone + 1;")
            .brokenBy("Math.max(Math.abs(x - restPlaceX()), Math.abs(y - restPlaceY()))", "Math.abs(x - restPlaceX())")
            .brokenBy("Math.max(Math.abs(x - restPlaceX()), Math.abs(y - restPlaceY()))", "Math.abs(y - restPlaceY())")
            .brokenBy("Math.max(Math.abs(x - restPlaceX()), Math.abs(y - restPlaceY()))",
                "Math.max(x - restPlaceX(), y - restPlaceY())")
            .brokenBy("Math.max(Math.abs(x - restPlaceX()), Math.abs(y - restPlaceY()))",
                "Math.abs(x - restPlaceX()) + Math.abs(y - restPlaceY())");
    }

    private static void axisRange() {
        int[][] good = {{0, 128}, {255, 128}, {128, 0}, {128, 255}};
        int[] tells = {100, 200100, 100000, 100200};
        for (int i = 0; i < good.length; i++) {
            due("sample(" + good[i][0] + ", " + good[i][1] + ")", Sticks.fresh().sample(good[i][0], good[i][1]), tells[i]);
        }
        int[][] wrong = {{-1, 128}, {256, 128}, {128, -1}, {128, 256}};
        for (int[] at : wrong) {
            due("sample(" + at[0] + ", " + at[1] + ")", Sticks.fresh().sample(at[0], at[1]), -2);
        }
    }

    private static void restAtFirst() {
        StickRests s = Sticks.fresh();
        due("x", s.of(0, 0), 2048);
        due("y", s.of(1, 0), 2048);
        s.sample(128, 128);
        due("x is off 128", s.of(0, 3), 1000);
        due("y is off 128", s.of(1, 3), 1000);
        s = Sticks.fresh(Sticks.SLOW, 64);
        s.sample(132, 124);
        due("a sixteenth more", s.of(0, 0), 2049);
        due("a sixteenth less", s.of(1, 0), 2047);
    }

    private static void off() {
        StickRests s = Sticks.fresh(Sticks.SLOW, 64);
        s.sample(132, 124);
        due("128 and a sixteenth is 128", s.of(0, 3), 1004);
        due("127 and fifteen sixteenths is 127", s.of(1, 3), 997);
        due("edge to higher x", s.wouldTell(136, 127), 101100);
        due("not yet", s.wouldTell(135, 127), 100100);
        due("edge to lower x", s.wouldTell(120, 127), 99100);
        due("not yet down", s.wouldTell(121, 127), 100100);
        due("edge to higher y", s.wouldTell(128, 135), 100101);
        due("not yet on y", s.wouldTell(128, 134), 100100);
        due("edge to lower y", s.wouldTell(128, 119), 100099);
        due("not yet down on y", s.wouldTell(128, 120), 100100);
        s = Sticks.restingAt(140, 100);
        due("7 off another rest", s.wouldTell(147, 93), 101099);
        due("6 off another rest", s.wouldTell(134, 106), 100100);
    }

    private static void zoneAtFirst() {
        due("count(1)", Sticks.fresh().count(1), 6);
        due("six off", Sticks.fresh().sample(134, 128), 100100);
        due("seven off", Sticks.fresh().sample(135, 128), 101100);
    }

    private static void zoneAnew() {
        for (int setting = 0; setting < 7; setting++) {
            for (int more = 0; more < 2; more++) {
                StickRests s = Sticks.fresh();
                s.hold(132, 128, 2);
                due("wide zone", s.count(1), 8);
                s.set(setting, FIRST[setting] + more);
                int zone = setting == 1 ? 6 + more : setting == 2 ? 6 : 8;
                due("zone behind set(" + setting + ", " + (FIRST[setting] + more) + ")", s.count(1), zone);
            }
        }
    }

    private static void inTheZone() {
        int[][] in = {{134, 128}, {122, 128}, {128, 134}, {128, 122}, {134, 122}, {122, 134}, {134, 134}};
        int[][] out = {{135, 128}, {121, 128}, {128, 135}, {128, 121}, {135, 121}};
        for (int[] at : in) {
            due("letting go at " + at[0] + ", " + at[1], letGoBehind(at[0], at[1]), 1);
        }
        for (int[] at : out) {
            due("letting go at " + at[0] + ", " + at[1], letGoBehind(at[0], at[1]), 0);
        }
    }

    private static int letGoBehind(int x, int y) {
        StickRests s = Sticks.fresh();
        s.sample(255, 128);
        s.sample(x, y);
        return s.count(4);
    }

    // ---- buttons

    private static void buttons(Sentences doc) {
        doc.part("Buttons");
        doc.says("There are 8 buttons, 0 to 7.", TermsTest::eightButtons)
            .brokenBy("BUTTONS = 8", "BUTTONS = 7")
            .brokenBy("BUTTONS = 8", "BUTTONS = 9")
            .brokenBy("button >= 0 &&", "button >= 1 &&");
        doc.says("When one that is up is pressed, presses shake for SHAKE samples,", TermsTest::pressShakes)
            .brokenBy("shaking = settings[SHAKE];", "shaking = settings[SHAKE] + 1;")
            .brokenBy("shaking = settings[SHAKE];", "shaking = settings[SHAKE] - 1;")
            .brokenBy("return isDown(button) ? NOT_POSSIBLE : ALLOWED;",
                "shaking = settings[SHAKE]; return isDown(button) ? NOT_POSSIBLE : ALLOWED;");
        doc.says("from the next one on", TermsTest::fromTheNextOneOn)
            .brokenBy("shaking = settings[SHAKE];", "shaking = settings[SHAKE]; shakenInZone++; shaking--;");
        doc.says("(whatever was left of it).", TermsTest::whateverWasLeft)
            .brokenBy("shaking = settings[SHAKE];", "shaking += settings[SHAKE];")
            .brokenBy("shaking = settings[SHAKE];", "shaking = Math.max(shaking, settings[SHAKE]);")
            .brokenBy("shaking = settings[SHAKE];", "shaking = shaking > 0 ? shaking : settings[SHAKE];");
        doc.says("Letting a button up shakes nothing.", TermsTest::lettingUpShakesNothing)
            .brokenBy("down &= ~(1 << button);", "down &= ~(1 << button); shaking = settings[SHAKE];")
            .brokenBy("down &= ~(1 << button);", "down &= ~(1 << button); shaking = 0;");
    }

    private static void eightButtons() {
        StickRests s = Sticks.fresh();
        due("press(0)", s.press(0), 1);
        due("press(7)", s.press(7), 129);
        due("press(-1)", s.press(-1), -1);
        due("press(8)", s.press(8), -1);
        due("letUp(-1)", s.letUp(-1), -1);
        due("letUp(8)", s.letUp(8), -1);
        due("letUp(0)", s.letUp(0), 128);
        due("letUp(7)", s.letUp(7), 0);
    }

    private static void pressShakes() {
        StickRests s = Sticks.fresh();
        s.press(3);
        due("SHAKE is 4", s.count(3), 4);
        s.hold(132, 128, 4);
        due("for four samples nothing is learned", s.of(0, 0), 2048);
        s.press(3);
        due("one that is down shakes nothing", s.count(3), 0);
        s.sample(132, 128);
        due("the fifth one is learned", s.of(0, 0), 2056);
        s.set(Sticks.SHAKE, 0);
        s.press(4);
        due("SHAKE 0", s.count(3), 0);
    }

    private static void fromTheNextOneOn() {
        StickRests s = Sticks.fresh();
        s.sample(132, 128);
        s.press(3);
        due("none of those ahead shook", s.count(9), 0);
        due("what was learned stays", s.of(0, 0), 2056);
        due("all of them are left", s.count(3), 4);
        s.sample(132, 128);
        due("the next one shakes", s.count(9), 1);
        due("three are left", s.count(3), 3);
    }

    private static void whateverWasLeft() {
        StickRests s = Sticks.fresh();
        s.press(0);
        s.sample(128, 128);
        due("three are left", s.count(3), 3);
        s.press(1);
        due("four again", s.count(3), 4);
        s.set(Sticks.SHAKE, 2);
        due("the setting alone does nothing", s.count(3), 4);
        s.press(2);
        due("fewer than were left", s.count(3), 2);
        s.set(Sticks.SHAKE, 0);
        s.press(3);
        due("none, though two were left", s.count(3), 0);
    }

    private static void lettingUpShakesNothing() {
        StickRests s = Sticks.fresh();
        s.press(0);
        s.sample(128, 128);
        s.letUp(0);
        due("what is left stays", s.count(3), 3);
        s.press(0);
        s.hold(128, 128, 4);
        s.letUp(0);
        due("nothing shakes", s.count(3), 0);
        s.sample(132, 128);
        due("so it is learned", s.of(0, 0), 2056);
    }

    // ---- what the interface says

    private static void face(Sentences doc) {
        doc.part("Texts");
        doc.says("The constants: `NO_SUCH = -1, BAD_VALUE = -2, BAD_TEXT = -3, TOO_MANY = -4, NOT_POSSIBLE = -5, NONE = -6`: "
                + "Error codes, and NONE: there is none.", TermsTest::errorConstants)
            .brokenBy("NO_SUCH = -1", "NO_SUCH = -7")
            .brokenBy("BAD_VALUE = -2", "BAD_VALUE = -7")
            .brokenBy("BAD_TEXT = -3", "BAD_TEXT = -7")
            .brokenBy("TOO_MANY = -4", "TOO_MANY = -7")
            .brokenBy("NOT_POSSIBLE = -5", "NOT_POSSIBLE = -7")
            .brokenBy("NONE = -6", "NONE = -7");
        doc.says("`SLOW = 0, ZONE = 1, WIDE = 2, REACH = 3, CORNER = 4, STILL = 5, SHAKE = 6`: Settings.",
                TermsTest::settingConstants)
            .brokenBy("SLOW = 0, ZONE = 1", "SLOW = 1, ZONE = 0")
            .brokenBy("WIDE = 2, REACH = 3", "WIDE = 3, REACH = 2")
            .brokenBy("CORNER = 4, STILL = 5, SHAKE = 6", "CORNER = 6, STILL = 4, SHAKE = 5");
        doc.says("Ahead of the calls `set`, `sample`, `hold`, `press`, `letUp`, `reset` the interface says: ---- changes.",
                TermsTest::changes)
            .brokenBy("history.keep(stick); return stick.changeSetting", "return stick.changeSetting")
            .brokenBy("history.keep(stick); for", "for")
            .brokenBy("history.keep(stick); return stick.pushDown(button);", "return stick.pushDown(button);")
            .brokenBy("history.keep(stick); return stick.release(button);", "return stick.release(button);")
            .brokenBy("history.keep(stick); return stick.toMiddle();", "return stick.toMiddle();");
        doc.says("Ahead of the calls `of`, `direction`, `count` the interface says: ---- what there is.", TermsTest::asking)
            .brokenBy("public int of(int axis, int what) {", "public int of(int axis, int what) { history.keep(stick);")
            .brokenBy("public int direction(int rank, int what) {",
                "public int direction(int rank, int what) { stick.still++;")
            .brokenBy("public int count(int what) {", "public int count(int what) { pad.length = 0;");
        doc.says("Ahead of the calls `wouldTell`, `learnedIn`, `edge`, `driftsIn` the interface says: "
                + "---- what if; nothing changes", TermsTest::whatIfChangesNothing)
            .brokenBy("return isSample(x, y) ? stick.tellingAt(x, y) : BAD_VALUE;",
                "if (isSample(x, y)) { stick.take(x, y); return stick.telling(); } return BAD_VALUE;")
            .brokenBy("trial.becomeLike(stick); for (int taken", "Stick trial = stick; for (int taken")
            .brokenBy("trial.becomeLike(stick); for (int many", "Stick trial = stick; for (int many")
            .brokenBy("public int edge(int axis, int up) {", "public int edge(int axis, int up) { history.keep(stick);");
        doc.says("(the bound of samples does not matter).", TermsTest::whatIfAtTheBound)
            .brokenBy("return isSample(x, y) ? stick.tellingAt(x, y) : BAD_VALUE;",
                "int no = stick.refusalOfSamples(x, y, 1); return no == ALLOWED ? stick.tellingAt(x, y) : no;")
            .brokenBy("if (isSample(x, y) && stick.tellingAt(x, y)",
                "if (stick.refusalOfSamples(x, y, 1) == ALLOWED && stick.tellingAt(x, y)")
            .brokenBy("taken <= MOST_LEARNING;", "taken <= MOST_LEARNING && stick.samples + taken <= MOST_SAMPLES;")
            .brokenBy("many <= MOST_DRIFTING;", "many <= MOST_DRIFTING && stick.samples + many <= MOST_SAMPLES;");
        doc.says("Ahead of the calls `put`, `wipe`, `fault`, `carryOut` the interface says: ---- texts.",
                TermsTest::textCalls)
            .brokenBy("return pad.append(characters);", "history.keep(stick); return pad.append(characters);")
            .brokenBy("return pad.empty();", "history.keep(stick); return pad.empty();")
            .brokenBy("return pad.firstFault();", "history.keep(stick); return pad.firstFault();");
        doc.says("Ahead of the calls `undo`, `save`, `restore` the interface says: ---- undo, saving.",
                TermsTest::undoAndSaving)
            .brokenBy("public int save(int slot) {", "public int save(int slot) { history.keep(stick);")
            .brokenBy("history.keep(stick); stick.becomeLike(saved);", "stick.becomeLike(saved);");
    }

    /** Asked of the class itself: where a name stands in a test, the compiler writes down the number that it had then. */
    private static int constant(String name) {
        try {
            return StickRests.class.getField(name).getInt(null);
        } catch (ReflectiveOperationException missing) {
            CHECKS.fail("no constant " + name);
            return Integer.MIN_VALUE;
        }
    }

    private static void errorConstants() {
        int value = 0;
        for (String name : List.of("NO_SUCH", "BAD_VALUE", "BAD_TEXT", "TOO_MANY", "NOT_POSSIBLE", "NONE")) {
            value--;
            due(name, constant(name), value);
        }
    }

    private static void settingConstants() {
        int value = 0;
        for (String name : List.of("SLOW", "ZONE", "WIDE", "REACH", "CORNER", "STILL", "SHAKE")) {
            due(name, constant(name), value);
            due("first value of " + name, Sticks.fresh().count(10 + constant(name)), FIRST[value]);
            value++;
        }
    }

    private static void isChange(String call, int answer, ToIntFunction<StickRests> made) {
        StickRests s = Sticks.fresh();
        s.press(1);
        due(call, made.applyAsInt(s), answer);
        due(call + " can be undone", s.count(18), 2);
    }

    private static void changes() {
        isChange("set(0, 9)", 8, s -> s.set(0, 9));
        isChange("sample(255, 128)", 200100, s -> s.sample(255, 128));
        isChange("hold(255, 128, 3)", 200100, s -> s.hold(255, 128, 3));
        isChange("press(0)", 3, s -> s.press(0));
        isChange("letUp(1)", 0, s -> s.letUp(1));
        isChange("reset()", 0, StickRests::reset);
    }

    private static void asks(String call, int answer, ToIntFunction<StickRests> asked) {
        StickRests s = used();
        due(call, asked.applyAsInt(s), answer);
        CHECKS.dueText("what there is behind " + call, Sticks.everything(s), Sticks.everything(used()));
        s = Sticks.fresh();
        s.sample(140, 128);
        asked.applyAsInt(s);
        due(call + " is no change", s.count(18), 1);
    }

    private static void asking() {
        asks("of(0, 2)", 140, s -> s.of(0, 2));
        asks("direction(0, 2)", 3, s -> s.direction(0, 2));
        asks("count(17)", 6, s -> s.count(17));
    }

    private static void whatIfChangesNothing() {
        asks("wouldTell(255, 128)", 200100, s -> s.wouldTell(255, 128));
        asks("learnedIn(141, 128)", 4, s -> s.learnedIn(141, 128));
        asks("edge(0, 0)", 9, s -> s.edge(0, 0));
        asks("driftsIn(141, 128)", 4, s -> s.driftsIn(141, 128));
    }

    private static void whatIfAtTheBound() {
        StickRests s = Sticks.sampled(9999);
        due("wouldTell(255, 128)", s.wouldTell(255, 128), 200100);
        due("learnedIn(127, 128)", s.learnedIn(127, 128), 1);
        due("learnedIn(140, 128)", s.learnedIn(140, 128), 13);
        due("edge(0, 1)", s.edge(0, 1), 7);
        due("driftsIn(140, 128)", s.driftsIn(140, 128), 13);
    }

    private static void textCalls() {
        StickRests s = Sticks.fresh();
        due("put('b')", s.put('b'), 1);
        due("fault()", s.fault(), 1);
        due("wipe()", s.wipe(), 1);
        due("none of them is a change", s.count(18), 0);
    }

    private static void undoAndSaving() {
        StickRests s = Sticks.fresh();
        s.sample(255, 128);
        due("save(0)", s.save(0), 1);
        due("is no change", s.count(18), 1);
        due("restore(0)", s.restore(0), 1);
        due("is a change", s.count(18), 2);
        due("undo()", s.undo(), 1);
    }
}
