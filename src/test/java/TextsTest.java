/** Promises 15 to 18: put, wipe, fault, carryOut. */
public final class TextsTest {
    private static final Checks CHECKS = new Checks();

    public static void main(String[] args) {
        put();
        putWrong();
        putOrder();
        putTooMany();
        wipe();
        fault();
        carryOut();
        carryOutUpToAnError();
        carryOutNothing();
        carryOutFault();
        carryOutIsOneChange();
        carryOutBound();
        carryOutLongest();
        CHECKS.end("TextsTest");
    }

    private static void due(String call, long got, long want) {
        CHECKS.due(call, got, want);
    }

    private static StickRests written(String text) {
        StickRests s = new StickRests();
        Checks.write(s, text);
        return s;
    }

    // ---- promise 15

    private static void put() {
        StickRests s = new StickRests();
        due("15: one", s.put('s'), 1);
        due("15: two", s.put(Checks.number("1,")), 3);
        due("15: eight", s.put(Checks.number("2*3;b1;u")), 11);
        due("15: the length", s.count(17), 11);
        due("15: no change", s.count(18), 0);
        due("15: the least code", s.put(33), 12);
        due("15: the greatest code", s.put(126), 13);
        due("15: seven", s.put(Checks.number("~~~~~~~")), 20);
        due("15: eight of the greatest code", s.put(Checks.number("~~~~~~~~")), 28);
        due("15: eight of the least code", s.put(Checks.number("!!!!!!!!")), 36);
    }

    private static void putWrong() {
        StickRests s = new StickRests();
        long[] wrong = {0, 32, 127, 128, 255, 256, 's' << 8, 's' << 8 | 32, 32 << 8 | 's', 127 << 8 | 's', 's' << 16 | 's',
            1L << 63, 1L << 63 | 's', 1L << 32 | 's', -1, Long.MIN_VALUE, Long.MAX_VALUE, (long) 's' << 56,
            (long) 's' << 56 | 's', Checks.number("1234567") | 32L << 56, Checks.number("1234567") | 127L << 56,
            Checks.number("1234567") | 1L << 63, Checks.number("12345678") & ~255L, Checks.number("12345678") & ~(255L << 24)};
        for (long characters : wrong) {
            due("15: put(" + characters + ")", s.put(characters), -2);
        }
        due("15: nothing was put", s.count(17), 0);
    }

    private static void putOrder() {
        StickRests s = new StickRests();
        s.put(Checks.number("s200,128"));
        due("15: the lowest 8 bits are the last character", s.carryOut(), 1);
        due("15: so it was 200, 128", s.of(0, 2) * 1000 + s.of(1, 2), 200128);
    }

    private static void putTooMany() {
        StickRests s = new StickRests();
        for (int i = 0; i < 9; i++) {
            s.put(Checks.number("12345678"));
        }
        due("15: 79", s.put(Checks.number("1234567")), 79);
        due("15: two more", s.put(Checks.number("12")), -4);
        due("15: a wrong one comes first", s.put(Checks.number("1 ")), -2);
        due("15: 79 still", s.count(17), 79);
        due("15: 80", s.put('1'), 80);
        due("15: one more", s.put('1'), -4);
        due("15: none", s.put(0), -2);
        due("15: 80 still", s.wipe(), 80);
    }

    // ---- promise 16

    private static void wipe() {
        StickRests s = written("s1,2;b0");
        due("16: the length that it had", s.wipe(), 7);
        due("16: empty", s.count(17), 0);
        due("16: empty already", s.wipe(), 0);
        due("16: no change", s.count(18), 0);
        due("16: nothing of it is left", s.fault(), 0);
        due("16: and from the start", s.put('b'), 1);
        due("16: nothing behind it", s.fault(), 1);
    }

    // ---- promise 17

    private static void faultOf(String text, int want) {
        due("17: fault of " + text, written(text).fault(), want);
    }

    private static void fault() {
        String[] good = {"s1,2", "s1,2*3", "s0,0", "s0,0*0", "s999,999*999", "s10,20", "b0", "b9", "u0", "u9", "b0;u0;s5,5*7",
            "s1,2;s3,4", "s1,2*3;b4", "s100,200*10;u1"};
        for (String text : good) {
            faultOf(text, -6);
        }
        String[] early = {"", "s", "s1", "s1,", "s1,2*", "s1,2;", "s12", "s999", "s999,", "b", "u", "b0;", "s1,2*3;", "u1;s"};
        for (String text : early) {
            faultOf(text, text.length());
        }
        String[] texts = {"x", ";", "*3", "1,2", "S1,2", "B0", ",", "s,1", "sx", "s*", "s01,2", "s00", "s1;2", "s1*2", "s1000,1",
            "s1,,2", "s1,x", "s1,*", "s1,;", "s1,01", "s1,1000", "s1,2,3", "s1,2x", "s1,2b0", "s1,2s1", "s1,2**", "s1,2*;",
            "s1,2*01", "s1,2*00", "s1,2*1000", "s1,2*3*4", "s1,2*3,4", "bx", "b;", "b10", "b0,", "b0*2", "b0b1", "u-", "u10",
            "b0;;", "b0;x", "b0;0", "b0;b0;u1u", "s-1,2", "s1000"};
        int[] places = {0, 0, 0, 0, 0, 0, 0, 1, 1, 1, 2, 2, 2, 2, 4,
            3, 3, 3, 3, 4, 6, 4, 4, 4, 4, 5, 5,
            6, 6, 8, 6, 6, 1, 1, 2, 2, 2, 2, 1, 2,
            3, 3, 3, 8, 1, 4};
        due("17: as many places as texts", places.length, texts.length);
        for (int i = 0; i < texts.length; i++) {
            faultOf(texts[i], places[i]);
        }
        String longest = "s1,1*999;s1,1*999;s1,1*999;s1,1*999;s1,1*999;s1,1*999;s1,1*999;s1,1*999;s1,1*999";
        due("17: 80 long", longest.length(), 80);
        faultOf(longest, -6);
        faultOf(longest.substring(0, 79), -6);
        faultOf("b0;b0;b0;b0;b0;b0;b0;b0;b0;b0;b0;b0;b0;b0;b0;b0;b0;b0;b0;b0;b0;b0;b0;b0;b0;b0;b0", -6);
        faultOf("b0;b0;b0;b0;b0;b0;b0;b0;b0;b0;b0;b0;b0;b0;b0;b0;b0;b0;b0;b0;b0;b0;b0;b0;b0;s1,1;", 80);
        StickRests s = written("s1,2;");
        s.fault();
        due("17: asked again", s.fault(), 5);
        due("17: no change", s.count(18), 0);
        s.put(Checks.number("b1"));
        due("17: goes on", s.fault(), -6);
        due("17: the pad stays", s.count(17), 7);
    }

    // ---- promise 18

    private static void carryOut() {
        StickRests s = written("s228,128*2;b1;b3;u1;s0,0");
        due("18: each is counted", s.carryOut(), 6);
        due("18: samples", s.count(0), 3);
        due("18: buttons", s.count(6), 8);
        due("18: shakes", s.count(3), 3);
        due("18: still", s.count(2), 0);
        due("18: told", s.of(0, 1) * 1000 + s.of(1, 1), 25025);
        due("18: the row", s.direction(0, 3), 2);
        due("18: the pad is empty", s.count(17), 0);
        due("18: and has a fault again", s.carryOut(), -3);
        s = written("s140,128*12");
        due("18: twelve", s.carryOut(), 12);
        Checks.write(s, "s140,128");
        due("18: once without a number", s.carryOut(), 1);
        due("18: drifted", s.count(5), 1);
    }

    private static void carriedOut(String text, int orders, int samples, int buttons) {
        StickRests s = written(text);
        due("18: " + text, s.carryOut(), orders);
        due("18: samples of " + text, s.count(0), samples);
        due("18: buttons of " + text, s.count(6), buttons);
        due("18: change of " + text, s.count(18), 1);
        due("18: pad behind " + text, s.count(17), 0);
    }

    private static void carryOutUpToAnError() {
        carriedOut("s1,2;b9;s3,4", 1, 1, 0);
        carriedOut("b8;b1", 0, 0, 0);
        carriedOut("b1;b1;b2", 1, 0, 2);
        carriedOut("u1;b1", 0, 0, 0);
        carriedOut("b7;u7;u7;b6", 2, 0, 0);
        carriedOut("u9", 0, 0, 0);
        carriedOut("s255,255*3;s256,0*3;s1,1", 3, 3, 0);
        carriedOut("s0,256", 0, 0, 0);
        carriedOut("s999,999*999;b0", 0, 0, 0);
    }

    private static void carryOutNothing() {
        carriedOut("s1,1*0", 0, 0, 0);
        carriedOut("s1,1*0;b0;s2,2*0;s3,3", 2, 1, 1);
        carriedOut("s999,999*0;b2", 1, 0, 4);
    }

    private static void carryOutFault() {
        StickRests s = new StickRests();
        due("18: empty", s.carryOut(), -3);
        Checks.write(s, "b1;s1,2;");
        due("18: ends too early", s.carryOut(), -3);
        due("18: the pad stays", s.count(17), 8);
        due("18: no change", s.count(18), 0);
        due("18: nothing was carried out", s.count(6), 0);
        s.put(Checks.number("u1"));
        due("18: mended", s.carryOut(), 3);
    }

    private static void carryOutIsOneChange() {
        StickRests s = written("s200,128*5;b1;b2");
        s.sample(10, 10);
        due("18: seven", s.carryOut(), 7);
        due("18: one change", s.count(18), 2);
        due("18: undone as one", s.undo(), 1);
        due("18: samples", s.count(0), 1);
        due("18: buttons", s.count(6), 0);
        due("18: undo leaves the pad", s.count(17), 0);
        Checks.write(s, "u1");
        due("18: none", s.carryOut(), 0);
        due("18: a change, though none was carried out", s.count(18), 2);
    }

    private static void carryOutBound() {
        StickRests s = new StickRests();
        for (int i = 0; i < 49; i++) {
            s.hold(128, 128, 200);
        }
        s.hold(128, 128, 190);
        Checks.write(s, "s128,128*20;b0");
        due("18: up to 9999", s.carryOut(), 9);
        due("18: 9999", s.count(0), 9999);
        due("18: none behind it", s.count(6), 0);
        Checks.write(s, "s1,1*0;b0;s1,1;b1");
        due("18: none of a sample is no error", s.carryOut(), 1);
        due("18: button", s.count(6), 1);
    }

    private static void carryOutLongest() {
        StickRests s = written("s1,1*999;s1,1*999;s1,1*999;s1,1*999;s1,1*999;s1,1*999;s1,1*999;s1,1*999;s1,1*999");
        due("18: the longest", s.carryOut(), 8991);
        due("18: 8991", s.count(0), 8991);
        due("18: 8990 still", s.count(2), 8990);
        due("18: one row", s.direction(0, 3), 8991);
    }
}
