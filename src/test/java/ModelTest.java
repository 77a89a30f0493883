/** Long runs of calls on the class and on the plain model: each answer has to be the same. */
public final class ModelTest {
    private static final int RUNS = 1500;
    private static final int CALLS = 512;

    private final Checks checks = new Checks();
    private StickRests stick;
    private PlainModel model;
    private long seed;
    private int restless;
    private int nearX;
    private int nearY;
    private int run;
    private int call;

    public static void main(String[] args) {
        ModelTest test = new ModelTest();
        for (int run = 0; run < RUNS; run++) {
            test.play(run);
        }
        test.checks.end("ModelTest");
    }

    private void play(int number) {
        run = number;
        seed = 7919L * number + 13;
        stick = new StickRests();
        model = new PlainModel();
        restless = below(4);
        nearX = 128;
        nearY = 128;
        call = 0;
        if (number % 300 == 7) {
            comeNearTheBound();
        }
        for (; call < CALLS; call++) {
            step();
        }
    }

    private void comeNearTheBound() {
        for (; call < 49; call++) {
            int x = wander(128);
            due("hold(" + x + ", 128, 200)", stick.hold(x, 128, 200), model.hold(x, 128, 200));
        }
        for (int slot = 0; slot < 2; slot++) {
            due("save(" + slot + ")", stick.save(slot), model.save(slot));
        }
    }

    /** Numbers that look thrown, but are the same in each run. */
    private int below(int bound) {
        seed = seed * 6364136223846793005L + 1442695040888963407L;
        return (int) ((seed >>> 33) % bound);
    }

    private void due(String what, int got, int want) {
        checks.due("run " + run + ", call " + call + ": " + what, got, want);
    }

    private void step() {
        int kind = below(100);
        if (kind < 34) {
            sampleOrHold();
        } else if (kind < 40) {
            buttons();
        } else if (kind < 45) {
            settings();
        } else if (kind < 72) {
            ask();
        } else if (kind < 84) {
            whatIf();
        } else if (kind < 92) {
            texts();
        } else {
            undoAndSlots();
        }
    }

    private int wander(int near) {
        switch (below(8)) {
            case 0: return below(256);
            case 1: return below(2) * 255;
            case 2: return 128 + below(31) - 15;
            default: return near + below(2 * restless + 3) - restless - 1;
        }
    }

    private void moveOn() {
        if (below(3) == 0) {
            nearX = wander(nearX);
            nearY = wander(nearY);
        }
        if (below(60) != 0) {
            nearX = Math.max(0, Math.min(255, nearX));
            nearY = Math.max(0, Math.min(255, nearY));
        }
    }

    private void sampleOrHold() {
        moveOn();
        int x = nearX;
        int y = nearY;
        if (below(2) == 0) {
            due("sample(" + x + ", " + y + ")", stick.sample(x, y), model.sample(x, y));
        } else {
            int many = below(12) == 0 ? below(204) - 1 : 1 + below(20);
            due("hold(" + x + ", " + y + ", " + many + ")", stick.hold(x, y, many), model.hold(x, y, many));
        }
    }

    private void buttons() {
        int button = below(10) - 1;
        if (below(2) == 0) {
            due("press(" + button + ")", stick.press(button), model.press(button));
        } else {
            due("letUp(" + button + ")", stick.letUp(button), model.letUp(button));
        }
    }

    private void settings() {
        if (below(5) == 0) {
            due("reset()", stick.reset(), model.reset());
            return;
        }
        int[] least = {0, 0, -1, 59, 99, 1, -1, 0, 0};
        int[] span = {67, 33, 23, 70, 103, 61, 23, 3, 3};
        int setting = below(9) - 1;
        int value = setting < 0 ? 1 : least[setting] + below(span[setting]);
        due("set(" + setting + ", " + value + ")", stick.set(setting, value), model.set(setting, value));
    }

    private void ask() {
        int what = below(21) - 1;
        due("count(" + what + ")", stick.count(what), model.count(what));
        int axis = below(4) - 1;
        int about = below(6) - 1;
        due("of(" + axis + ", " + about + ")", stick.of(axis, about), model.of(axis, about));
        int rank = below(11) - 1;
        int detail = below(6) - 1;
        due("direction(" + rank + ", " + detail + ")", stick.direction(rank, detail), model.direction(rank, detail));
    }

    private void whatIf() {
        int x = wander(nearX);
        int y = below(3) == 0 ? wander(nearY) : nearY;
        switch (below(4)) {
            case 0:
                due("wouldTell(" + x + ", " + y + ")", stick.wouldTell(x, y), model.wouldTell(x, y));
                break;
            case 1:
                due("learnedIn(" + x + ", " + y + ")", stick.learnedIn(x, y), model.learnedIn(x, y));
                break;
            case 2:
                due("driftsIn(" + x + ", " + y + ")", stick.driftsIn(x, y), model.driftsIn(x, y));
                break;
            default:
                int axis = below(8) == 0 ? below(4) - 1 : below(2);
                int up = below(8) == 0 ? below(4) - 1 : below(2);
                due("edge(" + axis + ", " + up + ")", stick.edge(axis, up), model.edge(axis, up));
        }
    }

    private void texts() {
        switch (below(8)) {
            case 0:
                due("wipe()", stick.wipe(), model.wipe());
                break;
            case 1:
                due("fault()", stick.fault(), model.fault());
                break;
            case 2:
                long odd = seed >>> below(64);
                due("put(" + odd + ")", stick.put(odd), model.put(odd));
                break;
            default:
                write(below(6) == 0 ? scribble() : text());
                due("fault()", stick.fault(), model.fault());
                due("carryOut()", stick.carryOut(), model.carryOut());
        }
    }

    private String text() {
        StringBuilder text = new StringBuilder();
        int orders = 1 + below(5);
        for (int i = 0; i < orders; i++) {
            text.append(i == 0 ? "" : ";");
            switch (below(4)) {
                case 0:
                    text.append('b').append(below(9));
                    break;
                case 1:
                    text.append('u').append(below(9));
                    break;
                default:
                    moveOn();
                    text.append('s').append(Math.abs(nearX)).append(',').append(Math.abs(nearY));
                    if (below(2) == 0) {
                        text.append('*').append(below(9) == 0 ? below(1000) : below(20));
                    }
            }
        }
        if (below(5) == 0) {
            text.setCharAt(below(text.length()), "sbu0123,;*x".charAt(below(11)));
        }
        return text.toString();
    }

    private String scribble() {
        StringBuilder text = new StringBuilder();
        int length = below(12);
        for (int i = 0; i < length; i++) {
            text.append("ssbu00123,,;;*".charAt(below(14)));
        }
        return text.toString();
    }

    private void write(String text) {
        for (int start = 0; start < text.length(); start += 8) {
            long number = Sticks.number(text.substring(start, Math.min(text.length(), start + 8)));
            due("put(" + number + ")", stick.put(number), model.put(number));
        }
    }

    private void undoAndSlots() {
        int slot = below(4) - 1;
        switch (below(4)) {
            case 0:
                due("save(" + slot + ")", stick.save(slot), model.save(slot));
                break;
            case 1:
                due("restore(" + slot + ")", stick.restore(slot), model.restore(slot));
                break;
            default:
                due("undo()", stick.undo(), model.undo());
        }
    }
}
