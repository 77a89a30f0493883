/** Promises 19 to 21: undo, save, restore. */
public final class UndoTest {
    private static final Checks CHECKS = new Checks();

    public static void main(String[] args) {
        undoSix();
        undoRing();
        undoEachChange();
        undoAll();
        undoLeaves();
        notChanges();
        save();
        saveKeepsAll();
        restore();
        restoreWrong();
        CHECKS.end("UndoTest");
    }

    private static void due(String call, long got, long want) {
        CHECKS.due(call, got, want);
    }

    private static void dueText(String call, String got, String want) {
        if (!got.equals(want)) {
            System.out.println(call + ": " + got + " instead of " + want);
        }
        CHECKS.due(call, got.equals(want) ? 1 : 0, 1);
    }

    /** All that undo brings back, as far as it can be asked at once. */
    private static String state(StickRests s) {
        StringBuilder all = new StringBuilder();
        for (int what = 0; what < 17; what++) {
            all.append(s.count(what)).append(' ');
        }
        for (int what = 0; what < 4; what++) {
            all.append(s.of(0, what)).append(' ').append(s.of(1, what)).append(' ');
        }
        for (int rank = 0; rank < s.count(8); rank++) {
            for (int what = 0; what < 4; what++) {
                all.append(s.direction(rank, what)).append(' ');
            }
        }
        return all.toString();
    }

    // ---- promise 19

    private static void undoSix() {
        StickRests s = new StickRests();
        due("19: none", s.undo(), -5);
        for (int i = 1; i <= 8; i++) {
            s.sample(200, 128);
            due("19: kept", s.count(18), Math.min(6, i));
        }
        for (int i = 5; i >= 0; i--) {
            due("19: left", s.undo(), i);
            due("19: samples", s.count(0), i + 2);
        }
        due("19: the oldest ones were dropped", s.undo(), -5);
        due("19: nothing happened", s.count(0), 2);
        s.sample(0, 0);
        due("19: recorded anew", s.count(18), 1);
        due("19: undone anew", s.undo(), 0);
        due("19: two", s.count(0), 2);
    }

    private static void undoRing() {
        StickRests s = new StickRests();
        for (int i = 0; i < 40; i++) {
            s.sample(i, 128);
            s.sample(i + 1, 128);
            s.sample(i + 2, 128);
            due("19: undone one", s.undo(), i == 0 ? 2 : Math.min(5, 2 * i + 2));
            due("19: the latest one", s.of(0, 2), i + 1);
        }
        for (int i = 4; i >= 0; i--) {
            due("19: undone", s.undo(), i);
        }
        due("19: no more", s.undo(), -5);
        due("19: all but five of eighty", s.count(0), 75);
    }

    private static void undoEachChange() {
        for (int kind = 0; kind < 9; kind++) {
            StickRests s = new StickRests();
            s.hold(132, 124, 3);
            s.press(2);
            s.hold(200, 128, 2);
            s.save(0);
            s.set(StickRests.SLOW, 5);
            String before = state(s);
            int kept = s.count(18);
            switch (kind) {
                case 0: s.set(StickRests.ZONE, 9); break;
                case 1: s.sample(0, 5); break;
                case 2: s.hold(130, 130, 9); break;
                case 3: s.press(5); break;
                case 4: s.letUp(2); break;
                case 5: s.reset(); break;
                case 6: s.restore(0); break;
                case 7: s.set(StickRests.SLOW, 5); break;
                default:
                    Checks.write(s, "s1,1*3;b0");
                    s.carryOut();
            }
            due("19: change " + kind + " is recorded", s.count(18), kept + 1);
            due("19: undo of " + kind, s.undo(), kept);
            dueText("19: as it was before " + kind, state(s), before);
        }
    }

    private static void undoAll() {
        StickRests s = new StickRests();
        s.set(StickRests.STILL, 3);
        s.press(0);
        s.hold(133, 129, 6);
        s.sample(140, 128);
        String before = state(s);
        int tells = s.wouldTell(141, 128);
        int drifts = s.driftsIn(141, 128);
        s.hold(141, 128, 9);
        s.hold(10, 10, 3);
        s.letUp(0);
        s.reset();
        s.set(StickRests.STILL, 9);
        for (int i = 0; i < 5; i++) {
            s.undo();
        }
        dueText("19: five undone", state(s), before);
        due("19: would tell as before", s.wouldTell(141, 128), tells);
        due("19: would drift as before", s.driftsIn(141, 128), drifts);
        s.sample(141, 128);
        due("19: the still ones go on", s.count(2), 1);
        due("19: the row goes on", s.direction(1, 3), 2);
    }

    private static void undoLeaves() {
        StickRests s = new StickRests();
        s.sample(1, 1);
        s.save(0);
        s.sample(2, 2);
        s.save(0);
        s.save(1);
        Checks.write(s, "b1");
        s.undo();
        s.undo();
        due("19: the pad stays", s.count(17), 2);
        due("19: slot 0 stays", s.restore(0), 2);
        due("19: slot 1 stays", s.restore(1), 2);
        s.undo();
        s.undo();
        due("19: all undone", s.count(0), 0);
        due("19: slot 1 stays again", s.restore(1), 2);
    }

    private static void notChanges() {
        StickRests s = new StickRests();
        s.sample(200, 200);
        s.count(0);
        s.of(0, 0);
        s.direction(0, 0);
        s.wouldTell(1, 1);
        s.learnedIn(126, 126);
        s.edge(0, 1);
        s.driftsIn(140, 128);
        s.put('b');
        s.fault();
        s.carryOut();
        s.wipe();
        s.save(0);
        s.restore(1);
        s.sample(256, 0);
        s.hold(0, 0, 0);
        s.set(7, 7);
        s.press(8);
        s.letUp(0);
        due("19: only the sample is a change", s.undo(), 0);
        due("19: undone", s.count(0), 0);
        due("19: undo is none, either", s.undo(), -5);
    }

    // ---- promise 20

    private static void save() {
        StickRests s = new StickRests();
        due("20: save(0)", s.save(0), 0);
        s.hold(5, 5, 7);
        due("20: save(1)", s.save(1), 7);
        due("20: save(0), overwritten", s.save(0), 7);
        due("20: save(-1)", s.save(-1), -2);
        due("20: save(2)", s.save(2), -2);
        due("20: save(MAX)", s.save(Integer.MAX_VALUE), -2);
        due("20: save(MIN)", s.save(Integer.MIN_VALUE), -2);
        due("20: no change", s.count(18), 1);
        s.sample(5, 5);
        due("20: slot 0 was overwritten", s.restore(0), 7);
    }

    private static void saveKeepsAll() {
        StickRests s = new StickRests();
        s.set(StickRests.ZONE, 4);
        s.set(StickRests.STILL, 5);
        s.hold(131, 126, 4);
        s.hold(138, 128, 6);
        s.press(1);
        s.hold(138, 128, 2);
        s.sample(255, 10);
        s.sample(138, 128);
        s.letUp(1);
        s.press(6);
        s.hold(139, 140, 2);
        String before = state(s);
        s.save(1);
        s.hold(10, 10, 100);
        s.set(StickRests.ZONE, 20);
        s.set(StickRests.SHAKE, 20);
        s.press(0);
        s.reset();
        s.hold(128, 128, 30);
        Checks.write(s, "b5");
        due("20: restored", s.restore(1), 16);
        dueText("20: all of it", state(s), before);
        due("20: the pad is not saved", s.count(17), 2);
        due("20: the history is not saved", s.count(18), 6);
        s.sample(139, 141);
        due("20: the still ones go on", s.count(2), 2);
        s = new StickRests();
        s.sample(255, 128);
        s.sample(0, 128);
        s.save(0);
        s.undo();
        s.undo();
        s.sample(0, 128);
        s.sample(255, 128);
        due("20: left came first", s.direction(0, 0), 0);
        s.restore(0);
        due("20: right came first", s.direction(0, 0), 2);
        due("20: left came second", s.direction(1, 0), 0);
        s.undo();
        due("19: left came first", s.direction(0, 0), 0);
    }

    // ---- promise 21

    private static void restore() {
        StickRests s = new StickRests();
        s.hold(200, 128, 3);
        s.save(0);
        s.hold(10, 128, 4);
        due("21: so many samples then", s.restore(0), 3);
        due("21: a change", s.count(18), 3);
        s.hold(10, 128, 9);
        due("21: the slot keeps it", s.restore(0), 3);
        // 66 * 100 / 94 is 70.
        due("21: told", s.of(0, 1), 170);
        s.undo();
        due("21: undone", s.count(0), 12);
        s.save(1);
        due("21: slot 0", s.restore(0), 3);
        due("21: slot 1", s.restore(1), 12);
        s.save(0);
        s.undo();
        due("21: undo of restore", s.count(0), 3);
        due("21: saved what was restored", s.restore(0), 12);
    }

    private static void restoreWrong() {
        StickRests s = new StickRests();
        due("21: nothing in 0", s.restore(0), -5);
        due("21: nothing in 1", s.restore(1), -5);
        due("21: restore(-1)", s.restore(-1), -2);
        due("21: restore(2)", s.restore(2), -2);
        due("21: restore(MAX)", s.restore(Integer.MAX_VALUE), -2);
        due("21: restore(MIN)", s.restore(Integer.MIN_VALUE), -2);
        due("21: no change", s.count(18), 0);
        s.save(1);
        due("21: still nothing in 0", s.restore(0), -5);
        due("21: something in 1", s.restore(1), 0);
        due("21: a change, though nothing is different", s.count(18), 1);
    }
}
