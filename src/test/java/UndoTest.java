import java.util.function.Consumer;

/** Promises 19 to 21: undo, save, restore. */
public final class UndoTest {
    private static final Checks CHECKS = new Checks();

    public static void main(String[] args) {
        sentences().test("UndoTest");
    }

    static Sentences sentences() {
        Sentences doc = new Sentences(CHECKS);
        undo(doc);
        save(doc);
        restore(doc);
        return doc;
    }

    private static void due(String call, long got, long want) {
        CHECKS.due(call, got, want);
    }

    // ---- promise 19

    /** Each of these is a copy of one number from a stick to another one: undo and restore need all of them. */
    private static final String[] COPIES = {"restX = other.restX;", "restY = other.restY;", "zone = other.zone;",
        "tellX = other.tellX;", "tellY = other.tellY;", "latestX = other.latestX;", "latestY = other.latestY;",
        "still = other.still;", "shaking = other.shaking;", "samples = other.samples;", "letGo = other.letGo;",
        "drifted = other.drifted;", "down = other.down;", "tellingSamples = other.tellingSamples;",
        "shakenInZone = other.shakenInZone;", "unlike = other.unlike;", "latest = other.latest;", "run = other.run;",
        "System.arraycopy(other.settings, 0, settings, 0, SETTINGS);", "System.arraycopy(other.byRank, 0, byRank, 0, DIRECTIONS);",
        "System.arraycopy(other.samplesIn, 0, samplesIn, 0, DIRECTIONS);",
        "System.arraycopy(other.longest, 0, longest, 0, DIRECTIONS);"};

    private static Sentence brokenByEachCopy(Sentence sentence) {
        for (String copy : COPIES) {
            sentence.brokenBy(copy, "");
        }
        return sentence;
    }

    private static void undo(Sentences doc) {
        doc.part("Promise 19: undo");
        brokenByEachCopy(doc.says("Undoes the latest change: everything except the pad, the slots and the history "
                + "is as it was before it.", UndoTest::undoBringsAllBack))
            .brokenBy("return history.takeBack(stick);", "pad.empty(); return history.takeBack(stick);")
            .brokenBy("return history.takeBack(stick);", "slots[1] = null; return history.takeBack(stick);")
            .brokenBy("int place = placeOf(size - 1);", "int place = placeOf(0);");
        doc.says("A history of at most 6 states is kept:", UndoTest::undoesSix)
            .brokenBy("HISTORY_SIZE = 6", "HISTORY_SIZE = 5")
            .brokenBy("HISTORY_SIZE = 6", "HISTORY_SIZE = 7");
        doc.says("each method that is a change, and returns no error, records the state before it (also if nothing is different then);",
                UndoTest::undoesEachChange)
            .brokenBy("history.keep(stick); return stick.changeSetting", "return stick.changeSetting")
            .brokenBy("history.keep(stick); for", "for")
            .brokenBy("history.keep(stick); return stick.pushDown", "return stick.pushDown")
            .brokenBy("history.keep(stick); return stick.release", "return stick.release")
            .brokenBy("history.keep(stick); return stick.toMiddle();", "return stick.toMiddle();")
            .brokenBy("history.keep(stick); int carriedOut", "int carriedOut")
            .brokenBy("history.keep(stick); stick.becomeLike(saved);", "stick.becomeLike(saved);")
            .brokenBy("history.keep(stick); return stick.changeSetting",
                "if (stick.settings[setting] != value) { history.keep(stick); } return stick.changeSetting")
            .brokenBy("public int sample(int x, int y) {",
                "public int sample(int x, int y) { if (!isSample(x, y)) { history.keep(stick); }")
            .brokenBy("public int save(int slot) {", "public int save(int slot) { history.keep(stick);")
            .brokenBy("return pad.empty();", "history.keep(stick); return pad.empty();");
        doc.says("when one more is recorded, the oldest one is dropped.", UndoTest::undoDropsTheOldest)
            .brokenBy("oldest = placeOf(1);", "")
            .brokenBy("oldest = placeOf(1);", "oldest = placeOf(2);")
            .brokenBy("Stick state = states[place]; if (state == null) { state = new",
                "if (size == HISTORY_SIZE) { return; } Stick state = states[place]; if (state == null) { state = new")
            .brokenBy("if (size < HISTORY_SIZE) { size++; }", "if (size < HISTORY_SIZE && ++size < 0) { size = 0; }");
        doc.says("An order of a text records nothing by itself.", UndoTest::undoesTextsAsOne)
            .brokenBy("stick.take(pad.first, pad.second);", "history.keep(stick); stick.take(pad.first, pad.second);")
            .brokenBy("if (goesDown) {", "history.keep(stick); if (goesDown) {");
        doc.says("Returns how many changes can be undone then;", UndoTest::undoReturnsWhatIsLeft)
            .brokenBy("size--; return size;", "size--; return size + 1;")
            .brokenBy("size--; return size;", "size--; return size == 0 ? NONE : size;");
        doc.says("NOT_POSSIBLE if there is none.", UndoTest::undoOfNothing)
            .brokenBy("if (size == 0 || place < 0 || place >= states.length) { return NOT_POSSIBLE; }",
                "if (size == 0 || place < 0 || place >= states.length) { return 0; }")
            .brokenBy("if (size == 0 || place < 0", "if (size < 0 || place < 0");
    }

    /** A stick in which nothing is as it is in a new one; slot 1 has a new one. */
    private static StickRests used() {
        StickRests s = new StickRests();
        s.save(1);
        s.set(Sticks.ZONE, 4);
        s.set(Sticks.STILL, 5);
        s.set(Sticks.SHAKE, 7);
        s.sample(131, 126);
        s.hold(138, 127, 6);
        s.press(1);
        s.hold(138, 127, 2);
        s.sample(255, 10);
        s.sample(138, 127);
        s.press(6);
        s.hold(142, 129, 2);
        s.sample(150, 115);
        s.sample(150, 116);
        return s;
    }

    /** Six changes, behind which nothing is as it was in used(): the directions begin anew, in another order. */
    private static void changeAll(StickRests s) {
        s.restore(1);
        s.reset();
        s.set(Sticks.SLOW, 3);
        Sticks.write(s, "s0,128;s128,128;s128,0;b0;s128,127;s116,130*30;s0,0");
        s.carryOut();
        s.hold(0, 200, 5);
        s.press(3);
    }

    private static void undoBringsAllBack() {
        StickRests s = used();
        changeAll(s);
        due("samples", s.count(0), 40);
        due("drifted", s.count(5), 1);
        s.save(0);
        Sticks.write(s, "b5;s");
        int[] samples = {15, 0, 0, 0, 35, 40};
        int[] buttons = {66, 0, 0, 0, 1, 1};
        for (int left = 5; left >= 0; left--) {
            due("undo", s.undo(), left);
            due("samples with " + left + " left", s.count(0), samples[left]);
            due("buttons with " + left + " left", s.count(6), buttons[left]);
        }
        CHECKS.dueText("what there is", Sticks.state(s), Sticks.state(used()));
        due("the pad stays", s.count(17), 4);
        StickRests twin = used();
        twin.sample(151, 117);
        s.sample(151, 117);
        CHECKS.dueText("what there is behind one sample more", Sticks.state(s), Sticks.state(twin));
        due("slot 1 stays", s.restore(1), 0);
        due("slot 0 stays", s.restore(0), 40);
    }

    private static void undoesSix() {
        StickRests s = new StickRests();
        for (int i = 1; i <= 8; i++) {
            s.sample(200, 128);
            due("kept behind " + i, s.count(18), Math.min(6, i));
        }
        for (int left = 5; left >= 0; left--) {
            due("undo", s.undo(), left);
            due("samples", s.count(0), left + 2);
        }
        due("a seventh one", s.undo(), -5);
        due("samples", s.count(0), 2);
    }

    private static void isRecorded(String call, Consumer<StickRests> made) {
        StickRests s = new StickRests();
        s.hold(132, 124, 3);
        s.press(2);
        s.save(0);
        s.set(Sticks.SLOW, 5);
        String before = Sticks.state(s);
        made.accept(s);
        due(call + " is recorded", s.count(18), 4);
        due("undo of " + call, s.undo(), 3);
        CHECKS.dueText("what there is behind undo of " + call, Sticks.state(s), before);
    }

    private static void isNotRecorded(String call, Consumer<StickRests> made) {
        StickRests s = new StickRests();
        s.hold(132, 124, 3);
        s.press(2);
        s.sample(200, 200);
        made.accept(s);
        due(call + " is not recorded", s.count(18), 3);
    }

    private static void undoesEachChange() {
        isRecorded("set(1, 9)", s -> s.set(1, 9));
        isRecorded("set(0, 5), the same", s -> s.set(0, 5));
        isRecorded("sample(0, 5)", s -> s.sample(0, 5));
        isRecorded("hold(130, 130, 9)", s -> s.hold(130, 130, 9));
        isRecorded("press(5)", s -> s.press(5));
        isRecorded("letUp(2)", s -> s.letUp(2));
        isRecorded("reset()", StickRests::reset);
        isRecorded("reset() of what is reset", s -> {
            s.reset();
            s.undo();
            s.reset();
        });
        isRecorded("restore(0)", s -> s.restore(0));
        isRecorded("carryOut()", s -> {
            Sticks.write(s, "s1,1*3;b0");
            s.carryOut();
        });
        isRecorded("carryOut() of no order", s -> {
            Sticks.write(s, "u0");
            s.carryOut();
        });
        isNotRecorded("set(7, 7)", s -> s.set(7, 7));
        isNotRecorded("sample(256, 0)", s -> s.sample(256, 0));
        isNotRecorded("hold(0, 0, 0)", s -> s.hold(0, 0, 0));
        isNotRecorded("press(2) again", s -> s.press(2));
        isNotRecorded("letUp(0)", s -> s.letUp(0));
        isNotRecorded("restore(1) of nothing", s -> s.restore(1));
        isNotRecorded("carryOut() of nothing", StickRests::carryOut);
        isNotRecorded("save(0)", s -> s.save(0));
        isNotRecorded("put('b')", s -> s.put('b'));
        isNotRecorded("wipe()", StickRests::wipe);
    }

    private static void undoDropsTheOldest() {
        StickRests s = new StickRests();
        for (int i = 0; i < 40; i++) {
            s.sample(i, 128);
            s.sample(i + 1, 128);
            s.sample(i + 2, 128);
            due("undo", s.undo(), Math.min(5, 2 * i + 2));
            due("the latest one", s.of(0, 2), i + 1);
        }
        for (int left = 4; left >= 0; left--) {
            due("undo", s.undo(), left);
        }
        due("no more", s.undo(), -5);
        due("samples", s.count(0), 75);
        due("the latest one", s.of(0, 2), 37);
    }

    private static void undoesTextsAsOne() {
        StickRests s = Sticks.written("s1,1*20;b0;b1;u0;s3,3");
        due("carried out", s.carryOut(), 24);
        due("changes", s.count(18), 1);
        due("undo", s.undo(), 0);
        due("samples", s.count(0), 0);
        due("buttons", s.count(6), 0);
    }

    private static void undoReturnsWhatIsLeft() {
        StickRests s = new StickRests();
        s.sample(1, 1);
        s.sample(2, 2);
        due("one left", s.undo(), 1);
        due("none left", s.undo(), 0);
        s.sample(3, 3);
        due("none left again", s.undo(), 0);
    }

    private static void undoOfNothing() {
        StickRests s = new StickRests();
        due("a new object", s.undo(), -5);
        s.put('b');
        s.save(0);
        due("no change yet", s.undo(), -5);
        s.press(0);
        s.undo();
        due("all undone", s.undo(), -5);
        due("undo is no change", s.undo(), -5);
        for (int i = 0; i < 9; i++) {
            s.sample(i, i);
        }
        for (int i = 0; i < 6; i++) {
            s.undo();
        }
        due("as many as there can be, all undone", s.undo(), -5);
        due("samples", s.count(0), 3);
        due("buttons", s.count(6), 0);
    }

    // ---- promise 20

    private static void save(Sentences doc) {
        doc.part("Promise 20: save");
        brokenByEachCopy(doc.says("Saves everything except the pad, the history and the slots in a slot,", UndoTest::savesAll))
            .brokenBy("history.keep(stick); stick.becomeLike(saved);",
                "history.keep(stick); pad.empty(); stick.becomeLike(saved);")
            .brokenBy("history.keep(stick); stick.becomeLike(saved);",
                "history.size = 0; history.keep(stick); stick.becomeLike(saved);");
        doc.says("and overwrites what was saved there.", UndoTest::saveOverwrites)
            .brokenBy("saved.becomeLike(stick);", "if (saved.samples == 0) { saved.becomeLike(stick); }")
            .brokenBy("slots[slot] = saved;", "slots[0] = saved; slots[1] = saved;");
        doc.says("- `slot`: 0 or 1", UndoTest::saveSlots)
            .brokenBy("public int save(int slot) { if (slot < 0 || slot >= slots.length)",
                "public int save(int slot) { if (slot != 0)")
            .brokenBy("public int save(int slot) { if (slot < 0 || slot >= slots.length)",
                "public int save(int slot) { if (slot != 1)");
        doc.says("Returns how many samples there have been;", UndoTest::saveReturnsSamples)
            .brokenBy("saved.becomeLike(stick); return stick.samples;", "saved.becomeLike(stick); return slot;")
            .brokenBy("saved.becomeLike(stick); return stick.samples;",
                "saved.becomeLike(stick); return stick.tellingSamples;")
            .brokenBy("saved.becomeLike(stick); return stick.samples;",
                "int had = saved.samples; saved.becomeLike(stick); return had;");
        doc.says("BAD_VALUE if there is no such slot.", UndoTest::saveNoSuchSlot)
            .brokenBy("SLOTS = 2", "SLOTS = 3")
            .brokenBy("public int save(int slot) { if (slot < 0 ||",
                "public int save(int slot) { if (slot < -1) { return NO_SUCH; } if (slot < 0 ||")
            .brokenBy("public int save(int slot) { if (slot < 0 || slot >= slots.length) { return BAD_VALUE;",
                "public int save(int slot) { if (slot < 0 || slot >= slots.length) { return NO_SUCH;");
    }

    private static void savesAll() {
        StickRests s = used();
        due("save(0)", s.save(0), 15);
        changeAll(s);
        s.save(1);
        Sticks.write(s, "b5;s");
        due("restore(0)", s.restore(0), 15);
        CHECKS.dueText("what there is", Sticks.state(s), Sticks.state(used()));
        due("not the pad", s.count(17), 4);
        due("not the history", s.count(18), 6);
        StickRests twin = used();
        twin.sample(151, 117);
        s.sample(151, 117);
        CHECKS.dueText("what there is behind one sample more", Sticks.state(s), Sticks.state(twin));
        due("not the slots", s.restore(1), 40);
    }

    private static void saveOverwrites() {
        StickRests s = new StickRests();
        s.hold(5, 5, 7);
        s.save(0);
        s.save(1);
        s.sample(200, 5);
        s.save(0);
        s.hold(5, 5, 9);
        due("what was saved last in 0", s.restore(0), 8);
        due("x", s.of(0, 2), 200);
        due("what was saved in 1", s.restore(1), 7);
        due("x", s.of(0, 2), 5);
        s.undo();
        s.undo();
        s.save(1);
        due("what was saved last in 1", s.restore(1), 17);
    }

    private static void saveSlots() {
        StickRests s = new StickRests();
        s.sample(1, 1);
        due("save(0)", s.save(0), 1);
        s.sample(1, 1);
        due("save(1)", s.save(1), 2);
        due("restore(0)", s.restore(0), 1);
        due("restore(1)", s.restore(1), 2);
    }

    private static void saveReturnsSamples() {
        StickRests s = new StickRests();
        due("none", s.save(1), 0);
        s.hold(128, 128, 7);
        due("seven", s.save(1), 7);
        due("seven again", s.save(0), 7);
        due("the most", Sticks.sampled(9999).save(0), 9999);
    }

    private static void saveNoSuchSlot() {
        StickRests s = new StickRests();
        for (int slot : new int[] {-1, -2, 2, 3, Integer.MAX_VALUE, Integer.MIN_VALUE}) {
            due("save(" + slot + ")", s.save(slot), -2);
        }
        due("nothing was saved in 0", s.restore(0), -5);
        due("nothing was saved in 1", s.restore(1), -5);
    }

    // ---- promise 21

    private static void restore(Sentences doc) {
        doc.part("Promise 21: restore");
        doc.says("Restores what was saved last in a slot, which keeps it.", UndoTest::restoreKeepsTheSlot)
            .brokenBy("stick.becomeLike(saved); return stick.samples;",
                "stick.becomeLike(saved); slots[slot] = null; return stick.samples;")
            .brokenBy("stick.becomeLike(saved); return stick.samples;", "return stick.samples;")
            .brokenBy("history.keep(stick); stick.becomeLike(saved);",
                "history.keep(stick); trial.becomeLike(stick); stick.becomeLike(saved); saved.becomeLike(trial);")
            .brokenBy("saved.becomeLike(stick);", "if (saved.samples == 0) { saved.becomeLike(stick); }");
        doc.says("This is a change.", UndoTest::restoreIsAChange)
            .brokenBy("history.keep(stick); stick.becomeLike(saved);", "stick.becomeLike(saved);")
            .brokenBy("history.keep(stick); stick.becomeLike(saved);",
                "if (stick.samples != saved.samples) { history.keep(stick); } stick.becomeLike(saved);");
        doc.says("- `slot`: 0 or 1", UndoTest::restoreSlots)
            .brokenBy("public int restore(int slot) { if (slot < 0 || slot >= slots.length)",
                "public int restore(int slot) { if (slot != 0)")
            .brokenBy("public int restore(int slot) { if (slot < 0 || slot >= slots.length)",
                "public int restore(int slot) { if (slot != 1)");
        doc.says("Returns how many samples there have been then;", UndoTest::restoreReturnsSamples)
            .brokenBy("stick.becomeLike(saved); return stick.samples;",
                "int had = stick.samples; stick.becomeLike(saved); return had;")
            .brokenBy("stick.becomeLike(saved); return stick.samples;", "stick.becomeLike(saved); return slot;");
        doc.says("BAD_VALUE if there is no such slot;", UndoTest::restoreNoSuchSlot)
            .brokenBy("SLOTS = 2", "SLOTS = 3")
            .brokenBy("public int restore(int slot) { if (slot < 0 ||",
                "public int restore(int slot) { if (slot == -1) { return NOT_POSSIBLE; } if (slot < 0 ||")
            .brokenBy("public int restore(int slot) { if (slot < 0 || slot >= slots.length) { return BAD_VALUE;",
                "public int restore(int slot) { if (slot < 0 || slot >= slots.length) { return NO_SUCH;");
        doc.says("NOT_POSSIBLE if nothing was saved in it.", UndoTest::restoreNothing)
            .brokenBy("slots = new Stick[SLOTS];", "slots = new Stick[SLOTS]; slots[0] = new Stick();")
            .brokenBy("slots = new Stick[SLOTS];", "slots = new Stick[SLOTS]; slots[1] = new Stick();")
            .brokenBy("slots[slot] = saved;", "slots[0] = saved; slots[1] = saved;")
            .brokenBy("if (saved == null) { return NOT_POSSIBLE; }", "if (saved == null) { return BAD_VALUE; }");
    }

    private static void restoreKeepsTheSlot() {
        StickRests s = new StickRests();
        s.hold(200, 128, 3);
        s.save(0);
        s.hold(10, 128, 4);
        s.save(0);
        s.hold(10, 128, 9);
        for (int i = 0; i < 3; i++) {
            due("restore(0)", s.restore(0), 7);
            due("x", s.of(0, 2), 10);
            due("still ones", s.count(2), 3);
            s.hold(200, 128, 2);
        }
        s.undo();
        due("behind undo", s.restore(0), 7);
    }

    private static void restoreIsAChange() {
        StickRests s = new StickRests();
        s.save(1);
        due("restore(1) of nothing that is different", s.restore(1), 0);
        due("is recorded", s.count(18), 1);
        s.hold(200, 128, 3);
        due("restore(1)", s.restore(1), 0);
        due("is recorded", s.count(18), 3);
        due("undo", s.undo(), 2);
        due("samples", s.count(0), 3);
        due("x tells", s.of(0, 1), 170);
    }

    private static void restoreSlots() {
        StickRests s = new StickRests();
        s.sample(1, 1);
        s.save(0);
        s.sample(1, 1);
        s.save(1);
        due("restore(0)", s.restore(0), 1);
        due("restore(1)", s.restore(1), 2);
        due("restore(0) again", s.restore(0), 1);
    }

    private static void restoreReturnsSamples() {
        StickRests s = new StickRests();
        s.save(1);
        s.hold(1, 1, 9);
        s.save(0);
        s.hold(1, 1, 9);
        due("fewer", s.restore(0), 9);
        due("none", s.restore(1), 0);
        due("more", s.restore(0), 9);
    }

    private static void restoreNoSuchSlot() {
        StickRests s = new StickRests();
        s.save(0);
        s.save(1);
        for (int slot : new int[] {-1, -2, 2, 3, Integer.MAX_VALUE, Integer.MIN_VALUE}) {
            due("restore(" + slot + ")", s.restore(slot), -2);
        }
        due("changes", s.count(18), 0);
    }

    private static void restoreNothing() {
        StickRests s = new StickRests();
        due("0 of a new object", s.restore(0), -5);
        due("1 of a new object", s.restore(1), -5);
        s.sample(1, 1);
        s.save(1);
        due("0, but something in 1", s.restore(0), -5);
        due("1", s.restore(1), 1);
        s = new StickRests();
        s.save(0);
        due("1, but something in 0", s.restore(1), -5);
        due("0, saved without a sample", s.restore(0), 0);
        due("changes", s.count(18), 1);
    }
}
