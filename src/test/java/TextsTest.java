/** The texts of the document, and promises 15 to 18: put, wipe, fault, carryOut. */
public final class TextsTest {
    private static final Checks CHECKS = new Checks();

    private static final String LONGEST = "s1,1*999;s1,1*999;s1,1*999;s1,1*999;s1,1*999;s1,1*999;s1,1*999;s1,1*999;s1,1*999";

    public static void main(String[] args) {
        sentences().test("TextsTest");
    }

    static Sentences sentences() {
        Sentences doc = new Sentences(CHECKS);
        texts(doc);
        orders(doc);
        faults(doc);
        put(doc);
        wipe(doc);
        fault(doc);
        carryOut(doc);
        return doc;
    }

    private static void due(String call, long got, long want) {
        CHECKS.due(call, got, want);
    }

    private static void faultOf(String text, int want) {
        due("fault of " + text, Sticks.written(text).fault(), want);
    }

    private static void good(String... texts) {
        for (String text : texts) {
            faultOf(text, -6);
        }
    }

    // ---- what a text is

    private static void texts(Sentences doc) {
        doc.part("Texts");
        doc.says("The pad is a text of at most 80 characters,", TextsTest::atMost80)
            .brokenBy("PAD_SIZE = 80", "PAD_SIZE = 79")
            .brokenBy("PAD_SIZE = 80", "PAD_SIZE = 81");
        doc.says("a row of orders: ```text text = order { \";\" order }", TextsTest::rowOfOrders)
            .brokenBy("if (!skip(';')) { return place; }", "if (!skip(',')) { return place; }")
            .brokenBy("if (place == length) { return NONE; }", "if (place == length && read < 9) { return NONE; }")
            .brokenBy("if (place == length) { return NONE; } if (!skip(';')) { return place; }",
                "if (place == length) { return NONE; } if (!skip(';')) { return place; } if (place == length) { return NONE; }")
            .brokenBy("if (!skip(';')) { return place; }", "skip(';');");
        doc.says("order = \"s\" number \",\" number [ \"*\" number ] | \"b\" digit | \"u\" digit ```", TextsTest::oneOrder)
            .brokenBy("if (kind == 'b' || kind == 'u') {", "if (kind == 'b') {")
            .brokenBy("if (kind == 'b' || kind == 'u') {", "if (kind == 'u') {")
            .brokenBy("if (kind == 's') {", "if (kind == 's' || kind == 'S') {")
            .brokenBy("first < 0 || !skip(',')", "first < 0 || !skip(';')")
            .brokenBy("first < 0 || !skip(',')", "first < 0")
            .brokenBy("second < 0 || !skip('*')", "second < 0 || !skip('x')")
            .brokenBy("times = readNumber(); return times >= 0;", "times = readNumber(); return times >= 1;")
            .brokenBy("first = readDigit(); return first >= 0;", "first = readNumber(); return first >= 0;");
    }

    private static void atMost80() {
        StickRests s = Sticks.written(LONGEST);
        due("length", s.count(17), 80);
        due("fault", s.fault(), -6);
        due("one more", s.put('9'), -4);
        s = Sticks.written(LONGEST.substring(0, 79));
        due("79", s.count(17), 79);
        due("fault of 79", s.fault(), -6);
        due("two more", s.put(Sticks.number("99")), -4);
        due("one more", s.put('9'), 80);
    }

    private static void rowOfOrders() {
        good("b0", "b0;u0", "b0;s1,2;u1;s3,4*5", "b0;b0;b0;b0;b0;b0;b0;b0;b0;b0;b0;b0;b0;b0;b0;b0;b0;b0;b0;b0;b0;b0;b0;b0;b0;b0");
        faultOf("b0;", 3);
        faultOf(";b0", 0);
        faultOf("b0;;b0", 3);
        faultOf("b0,b0", 2);
        faultOf("b0b0", 2);
        faultOf("s1,2s3,4", 4);
        faultOf("b0;b0;", 6);
    }

    private static void oneOrder() {
        good("s1,2", "s0,0", "s12,345", "s999,999", "s1,2*3", "s1,2*0", "s1,2*999", "b0", "b7", "u0", "u7");
        String[] texts = {"x1", "S1,2", "B0", "U0", "1,2", "*3", "s,1", "s*1", "s1;2", "s1*2", "s1,,2", "s1,*2", "s1,2,3", "s1,2x3",
            "s1,2**3", "s1,2*3*4", "s1,2*3,4", "s-1,2", "s1,-2", "bx", "b,", "b*2", "b12", "b0*2", "b0,1", "ux", "u12", "u0*2"};
        int[] places = {0, 0, 0, 0, 0, 0, 1, 1, 2, 2, 3, 3, 4, 4,
            5, 6, 6, 1, 3, 1, 1, 1, 2, 2, 2, 1, 2, 2};
        for (int i = 0; i < texts.length; i++) {
            faultOf(texts[i], places[i]);
        }
    }

    // ---- what an order does

    private static void orders(Sentences doc) {
        doc.says("\"s\": sample(), so many times (once without), each an order of its own;", TextsTest::orderOfSamples)
            .brokenBy("times = 1;", "times = 2;")
            .brokenBy("times = readNumber();", "times = readNumber() - 1;")
            .brokenBy("times = readNumber();", "times = readNumber(); if (times == 0) { times = 1; }")
            .brokenBy("all += carriedOut;", "all++;")
            .brokenBy("stick.take(pad.first, pad.second);", "stick.take(pad.second, pad.first);")
            .brokenBy("stick.refusalOfSamples(pad.first, pad.second, 1) == ALLOWED",
                "stick.refusalOfSamples(pad.first, pad.second, pad.times) == ALLOWED");
        doc.says("\"b\": press(), \"u\": letUp() of a button.", TextsTest::orderOfButtons)
            .brokenBy("boolean goesDown = pad.kind == 'b';", "boolean goesDown = pad.kind == 'u';")
            .brokenBy("stick.pushDown(button); } else", "stick.down |= 1 << button; } else")
            .brokenBy("stick.refusalOfPress(button) : stick.refusalOfLetUp(button)",
                "stick.refusalOfPress(button) : ALLOWED")
            .brokenBy("stick.refusalOfPress(button) : stick.refusalOfLetUp(button)",
                "ALLOWED : stick.refusalOfLetUp(button)");
        doc.says("A digit is 0 to 9,", TextsTest::digits)
            .brokenBy("digit < '0' || digit > '9'", "digit < '1' || digit > '9'")
            .brokenBy("digit < '0' || digit > '9'", "digit < '0' || digit > '8'")
            .brokenBy("digit < '0' || digit > '9'", "digit < '0' || digit > ':'")
            .brokenBy("digit < '0' || digit > '9'", "digit < '/' || digit > '9'")
            .brokenBy("first = readDigit(); return first >= 0;",
                "first = readDigit(); return first >= 0 && first < BUTTONS;");
        doc.says("a number 0 to 999,", TextsTest::numbers)
            .brokenBy("digits < 3;", "digits < 2;")
            .brokenBy("digits < 3;", "digits < 4;")
            .brokenBy("number = 10 * number + digit;", "number = 10 * number + digit; if (number > 998) { return NONE; }")
            .brokenBy("if (second < 0 || !skip('*'))", "if (second < 1 || !skip('*'))");
        doc.says("without leading zeros.", TextsTest::noLeadingZeros)
            .brokenBy("if (number <= 0) {", "if (number < 0) {");
    }

    private static void orderOfSamples() {
        StickRests s = Sticks.written("s228,74");
        due("once", s.carryOut(), 1);
        due("samples", s.count(0), 1);
        due("x, y", s.of(0, 2) * 1000 + s.of(1, 2), 228074);
        Sticks.write(s, "s0,255*1");
        due("*1", s.carryOut(), 1);
        due("samples", s.count(0), 2);
        Sticks.write(s, "s10,20*7;s1,2*3");
        due("*7 and *3", s.carryOut(), 10);
        due("samples", s.count(0), 12);
        Sticks.write(s, "s10,20*0");
        due("*0", s.carryOut(), 0);
        due("samples", s.count(0), 12);
        Sticks.write(s, "s256,0*0;b0");
        due("none of a sample that would be wrong", s.carryOut(), 1);
        due("samples", s.count(0), 12);
        s = Sticks.sampled(9990);
        Sticks.write(s, "s128,128*20");
        due("as many as there can be", s.carryOut(), 9);
        due("samples", s.count(0), 9999);
    }

    private static void orderOfButtons() {
        StickRests s = Sticks.written("b3;b5;u3");
        due("three", s.carryOut(), 3);
        due("buttons", s.count(6), 32);
        due("shakes", s.count(3), 4);
        Sticks.write(s, "b0;b0");
        due("one that is down", s.carryOut(), 1);
        Sticks.write(s, "u1;b1");
        due("one that is up", s.carryOut(), 0);
        due("buttons", s.count(6), 33);
    }

    private static void digits() {
        good("b0", "b1", "b8", "b9", "u0", "u9", "s9,0*90", "s109,890");
        // The signs before 0 and behind 9.
        faultOf("b/", 1);
        faultOf("b:", 1);
        faultOf("u/", 1);
        faultOf("u:", 1);
        faultOf("s1/,2", 2);
        faultOf("s1:,2", 2);
    }

    private static void numbers() {
        good("s0,0", "s9,9", "s10,10", "s99,99", "s100,100", "s998,998", "s999,999", "s1,1*0", "s1,1*9", "s1,1*10", "s1,1*99",
            "s1,1*100", "s1,1*999", "s0,0*5");
        faultOf("s1000,1", 4);
        faultOf("s1,1000", 6);
        faultOf("s1,1*1000", 8);
        StickRests s = Sticks.written("s1,1*999");
        due("999 times", s.carryOut(), 999);
        Sticks.write(s, "s255,107*100");
        due("100 times", s.carryOut(), 100);
        due("x, y", s.of(0, 2) * 1000 + s.of(1, 2), 255107);
    }

    private static void noLeadingZeros() {
        faultOf("s00,1", 2);
        faultOf("s01,1", 2);
        faultOf("s1,00", 4);
        faultOf("s1,09", 4);
        faultOf("s1,1*00", 6);
        faultOf("s1,1*01", 6);
        good("s0,0*0", "s10,100*20");
    }

    // ---- faults

    private static void faults(Sentences doc) {
        doc.says("The fault is the index of the first character that cannot stand at its place when the text is read from left to right",
                TextsTest::firstWrongCharacter)
            .brokenBy("if (!readOrder()) { return place; }", "if (!readOrder()) { return length - 1; }")
            .brokenBy("if (!readOrder()) { return place; }", "if (!readOrder()) { return place + 1; }")
            .brokenBy("if (!skip(';')) { return place; }", "if (!skip(';')) { return place + 1; }")
            .brokenBy("if (kind == 's') { place++;", "if (kind == 's') {")
            .brokenBy("void goToStart() { place = 0; }", "void goToStart() { }");
        doc.says("(also of a digit by which a number would be above 999);", TextsTest::digitTooMany)
            .brokenBy("digits < 3;", "digits < 9;")
            .brokenBy("number = 10 * number + digit;",
                "number = 10 * number + digit; if (digits == 2 && next() >= '0' && next() <= '9') "
                + "{ place = place - 3; return NONE; }");
        doc.says("if there is none and the text ends too early (also if it is empty), it is the length of the text.",
                TextsTest::endsTooEarly)
            .brokenBy("int firstFault() {", "int firstFault() { if (length == 0) { return NONE; }")
            .brokenBy("if (!readOrder()) { return place; }",
                "if (!readOrder()) { return place == length ? length - 1 : place; }")
            .brokenBy("if (!readOrder()) { return place; }", "if (!readOrder()) { return place == length ? NONE : place; }");
    }

    private static void firstWrongCharacter() {
        String[] texts = {"x", ";", "sx", "s1x", "s1,x", "s1,2x", "s1,2*x", "s1,2*3x", "b0x", "b0;x", "b0;sx", "u1;b2x", "b0;b1;b2;uu",
            "xyz", "s1,2;x;y", "b0;s1,2*3;s4,5,6;zzz"};
        int[] places = {0, 0, 1, 2, 3, 4, 5, 6, 2, 3, 4, 5, 10, 0, 5, 14};
        for (int i = 0; i < texts.length; i++) {
            faultOf(texts[i], places[i]);
        }
        faultOf(LONGEST.substring(0, 79) + "x", 79);
        StickRests s = Sticks.written("b0;x");
        due("asked", s.fault(), 3);
        due("asked again", s.fault(), 3);
        s.wipe();
        Sticks.write(s, "bxb0");
        due("another text", s.fault(), 1);
    }

    private static void digitTooMany() {
        faultOf("s1000,1", 4);
        faultOf("s9990,1", 4);
        faultOf("s1000", 4);
        faultOf("s1,9999", 6);
        faultOf("s1,2*1000", 8);
        faultOf("s123456", 4);
        good("s999,999*999");
    }

    private static void endsTooEarly() {
        String[] early = {"", "s", "s1", "s12", "s999", "s1,", "s999,", "s1,2*", "s1,2;", "s1,2*3;", "b", "u", "b0;", "u1;s", "b0;b1;b"};
        for (String text : early) {
            faultOf(text, text.length());
        }
        String almost80 = LONGEST.substring(0, 72);
        faultOf(almost80, 72);
        faultOf(almost80 + "s1,1*", 77);
        faultOf(almost80 + "b0;b0;b0", -6);
        faultOf(almost80 + "b0;s1,1;", 80);
    }

    // ---- promise 15

    private static void put(Sentences doc) {
        doc.part("Promise 15: put");
        doc.says("Appends characters to the pad.", TextsTest::putAppends)
            .brokenBy("int append(long characters) {", "int append(long characters) { length = 0;")
            .brokenBy("text[length] = (char)", "text[PAD_SIZE - 1 - length] = (char)");
        doc.says("They are given as a number: its lowest 8 bits are the last character, the next 8 bits the one before, and so on;",
                TextsTest::putOrder)
            .brokenBy("for (int behind = many - 1; behind >= 0 && length < text.length; behind--) {",
                "for (int behind = 0; behind < many && length < text.length; behind++) {");
        doc.says("8 bits that are 0 mean that there are no more characters, and everything above them has to be 0, too.",
                TextsTest::putEnds)
            .brokenBy("while (left != 0 && many < 8) {", "while ((left & 255) != 0 && many < 8) {")
            .brokenBy("while (left != 0 && many < 8) {", "while ((left & 0xFFFFFFFFL) != 0 && many < 8) {");
        doc.says("- `characters`: 1 to 8 characters", TextsTest::putOneToEight)
            .brokenBy("left != 0 && many < 8", "left != 0 && many < 7")
            .brokenBy("if (many == 0) {", "if (many <= 1) {")
            .brokenBy("if (many == 0) {", "if (many == 0 || many == 8) {");
        doc.says("Returns the length of the pad then;", TextsTest::putReturnsTheLength)
            .brokenBy("length++; } return length;", "length++; } return many;")
            .brokenBy("length++; } return length;", "length++; } return length - many;");
        doc.says("BAD_VALUE if there is no character,", TextsTest::putNothing)
            .brokenBy("if (many == 0) {", "if (many < 0) {")
            .brokenBy("int append(long characters) {",
                "int append(long characters) { if (characters == 0) { return length; }");
        doc.says("a code is not 33 to 126,", TextsTest::putCodes)
            .brokenBy("code < 33 || code > 126", "code < 32 || code > 126")
            .brokenBy("code < 33 || code > 126", "code < 34 || code > 126")
            .brokenBy("code < 33 || code > 126", "code < 33 || code > 125")
            .brokenBy("code < 33 || code > 126", "code < 33 || code > 127");
        doc.says("or a bit above 8 bits that are 0 is not 0;", TextsTest::putBitsAboveTheEnd)
            .brokenBy("code < 33 || code > 126", "code > 0 && code < 33 || code > 126")
            .brokenBy("while (left != 0 && many < 8) {", "while ((left & 255) != 0 && many < 8) {")
            .brokenBy("long left = characters;", "long left = characters & Long.MAX_VALUE;");
        doc.says("TOO_MANY if the pad would be longer than 80.", TextsTest::putTooMany)
            .brokenBy("length + many > PAD_SIZE", "length + many > PAD_SIZE - 1")
            .brokenBy("length + many > PAD_SIZE", "length + many > PAD_SIZE + 1")
            .brokenBy("length + many > PAD_SIZE", "length >= PAD_SIZE")
            .brokenBy("return TOO_MANY;", "return BAD_VALUE;");
    }

    private static void putAppends() {
        StickRests s = new StickRests();
        s.put('b');
        s.put(Sticks.number("3;s25"));
        s.put(Sticks.number("5,0"));
        due("fault of b3;s255,0", s.fault(), -6);
        due("carried out", s.carryOut(), 2);
        due("buttons", s.count(6), 8);
        due("x, y", s.of(0, 2) * 1000 + s.of(1, 2), 255000);
    }

    private static void putOrder() {
        StickRests s = new StickRests();
        // s is 115, 1 is 49, a comma is 44, 2 is 50
        due("s1,2", s.put(115L << 24 | 49 << 16 | 44 << 8 | 50), 4);
        due("fault", s.fault(), -6);
        due("carried out", s.carryOut(), 1);
        due("x, y", s.of(0, 2) * 1000 + s.of(1, 2), 1002);
        s.put(8300470805061513784L);
        due("s128,128", s.carryOut(), 1);
        due("x, y", s.of(0, 2) * 1000 + s.of(1, 2), 128128);
    }

    private static void putEnds() {
        StickRests s = new StickRests();
        due("one", s.put('b'), 1);
        due("two", s.put('1' << 8 | ';'), 3);
        due("seven", s.put(Sticks.number("s1,2*10")), 10);
        due("fault", s.fault(), -6);
        for (int above = 16; above < 64; above += 8) {
            due("a character behind 8 bits that are 0, from bit " + above, s.put((long) 'x' << above | 'x'), -2);
        }
        due("length", s.count(17), 10);
    }

    private static void putOneToEight() {
        StickRests s = new StickRests();
        String characters = "12345678";
        int length = 0;
        for (int many = 1; many <= 8; many++) {
            length += many;
            due("put of " + many, s.put(Sticks.number(characters.substring(0, many))), length);
        }
        due("none", s.put(0), -2);
    }

    private static void putReturnsTheLength() {
        StickRests s = new StickRests();
        due("b1;", s.put(Sticks.number("b1;")), 3);
        due("b2", s.put(Sticks.number("b2")), 5);
        s.carryOut();
        due("behind carryOut()", s.put('b'), 1);
        s.wipe();
        due("behind wipe()", s.put('b'), 1);
    }

    private static void putNothing() {
        StickRests s = new StickRests();
        due("put(0)", s.put(0), -2);
        s.put('b');
        due("put(0) behind another one", s.put(0), -2);
        due("length", s.count(17), 1);
    }

    private static void putCodes() {
        StickRests s = new StickRests();
        int length = 0;
        for (int code = 33; code <= 126; code += 31) {
            length++;
            due("put(" + code + ")", s.put(code), length);
        }
        due("eight of 126", s.put(Sticks.number("~~~~~~~~")), 12);
        due("eight of 33", s.put(Sticks.number("!!!!!!!!")), 20);
        for (int code : new int[] {1, 9, 31, 32, 127, 128, 161, 254, 255}) {
            for (int bit = 0; bit < 64; bit += 8) {
                long characters = Sticks.number("12345678") & ~(255L << bit) | (long) code << bit;
                due("code " + code + " from bit " + bit, s.put(characters), -2);
            }
            due("put(" + code + ")", s.put(code), -2);
        }
        due("length", s.count(17), 20);
    }

    private static void putBitsAboveTheEnd() {
        StickRests s = new StickRests();
        for (int bit = 16; bit < 64; bit++) {
            due("bit " + bit + " above 8 bits that are 0", s.put(1L << bit | 's'), -2);
        }
        due("a character above none", s.put('s' << 16 | 's'), -2);
        due("a character above none at all", s.put('s' << 8), -2);
        due("the highest character alone", s.put((long) 's' << 56), -2);
        due("length", s.count(17), 0);
    }

    private static void putTooMany() {
        StickRests s = Sticks.written(LONGEST.substring(0, 72));
        due("eight, up to 80", s.put(Sticks.number("12345678")), 80);
        due("one more", s.put('1'), -4);
        due("eight more", s.put(Sticks.number("12345678")), -4);
        s = Sticks.written(LONGEST.substring(0, 73));
        due("eight, up to 81", s.put(Sticks.number("12345678")), -4);
        due("length", s.count(17), 73);
        due("seven, up to 80", s.put(Sticks.number("1234567")), 80);
    }

    // ---- promise 16

    private static void wipe(Sentences doc) {
        doc.part("Promise 16: wipe");
        doc.says("Empties the pad,", TextsTest::wipeEmpties)
            .brokenBy("int had = length; length = 0;", "int had = length;")
            .brokenBy("int had = length; length = 0;", "int had = length; length = Math.min(1, had);");
        doc.says("and returns the length that it had.", TextsTest::wipeReturnsTheLength)
            .brokenBy("return had;", "return length;")
            .brokenBy("return had;", "return had == 0 ? NONE : had;");
    }

    private static void wipeEmpties() {
        StickRests s = Sticks.written("s1,2;b0");
        s.wipe();
        due("length", s.count(17), 0);
        due("fault", s.fault(), 0);
        s.put('b');
        due("nothing stands behind it", s.fault(), 1);
        s = Sticks.written(LONGEST);
        s.wipe();
        due("room again", Sticks.write(s, LONGEST), 80);
    }

    private static void wipeReturnsTheLength() {
        StickRests s = Sticks.written("s1,2;b0");
        due("seven", s.wipe(), 7);
        due("empty already", s.wipe(), 0);
        due("the most", Sticks.written(LONGEST).wipe(), 80);
        due("never written", new StickRests().wipe(), 0);
    }

    // ---- promise 17

    private static void fault(Sentences doc) {
        doc.part("Promise 17: fault");
        doc.says("Returns the fault of the pad, NONE if there is none.", TextsTest::faultOfThePad)
            .brokenBy("if (place == length) { return NONE; }", "if (place == length) { return place; }")
            .brokenBy("return pad.firstFault();",
                "int at = pad.firstFault(); pad.length = at < 0 ? pad.length : at; return at;");
    }

    private static void faultOfThePad() {
        StickRests s = new StickRests();
        due("empty", s.fault(), 0);
        Sticks.write(s, "b1");
        due("b1", s.fault(), -6);
        Sticks.write(s, ";");
        due("b1;", s.fault(), 3);
        Sticks.write(s, "s1,2x");
        due("b1;s1,2x", s.fault(), 7);
        Sticks.write(s, "*3");
        due("b1;s1,2x*3", s.fault(), 7);
        due("length", s.count(17), 10);
        s = Sticks.written("s1,2*3;b4");
        due("none", s.fault(), -6);
        due("none, asked again", s.fault(), -6);
    }

    // ---- promise 18

    private static void carryOut(Sentences doc) {
        doc.part("Promise 18: carryOut");
        doc.says("Carries the orders of the pad out, one after the other,", TextsTest::carriesOutInOrder)
            .brokenBy("pad.goToStart(); for", "for")
            .brokenBy("for (int read = 0; read < PAD_SIZE && pad.readOrder(); read++) { int",
                "for (int read = 0; read < 9 && pad.readOrder(); read++) { int");
        doc.says("up to the first one that returns an error,", TextsTest::carriesOutUpToAnError)
            .brokenBy("if (carriedOut < pad.times) { return all; }", "")
            .brokenBy("while (taken < pad.times && stick.refusalOfSamples(pad.first, pad.second, 1) == ALLOWED)",
                "for (int i = 0; i < pad.times && isSample(pad.first, pad.second); i++)")
            .brokenBy("if (carriedOut < pad.times) { return all; }", "if (carriedOut == 0) { return all; }");
        doc.says("and empties the pad.", TextsTest::carriesOutAndEmpties)
            .brokenBy("pad.empty(); return carriedOut;", "return carriedOut;")
            .brokenBy("pad.empty(); return carriedOut;", "if (carriedOut > 0) { pad.empty(); } return carriedOut;");
        doc.says("This is a change (one, with all of them; also if none is carried out).", TextsTest::carriesOutAsOneChange)
            .brokenBy("history.keep(stick); int carriedOut = carryOutOrders();", "int carriedOut = carryOutOrders();")
            .brokenBy("stick.take(pad.first, pad.second);", "history.keep(stick); stick.take(pad.first, pad.second);")
            .brokenBy("int carriedOut = carryOutOrders();",
                "int carriedOut = carryOutOrders(); if (carriedOut == 0) { history.takeBack(stick); }");
        doc.says("Returns how many orders were carried out;", TextsTest::carriesOutSoMany)
            .brokenBy("if (carriedOut < pad.times) { return all; }", "if (carriedOut < pad.times) { return all + 1; }")
            .brokenBy("all += carriedOut;", "all = carriedOut;")
            .brokenBy("pad.empty(); return carriedOut;", "pad.empty(); return stick.samples;");
        doc.says("BAD_TEXT if the pad has a fault (then it stays).", TextsTest::carriesOutNoFault)
            .brokenBy("if (pad.firstFault() != NONE) { return BAD_TEXT; }", "")
            .brokenBy("if (pad.firstFault() != NONE) {", "if (pad.length > 0 && pad.firstFault() != NONE) {")
            .brokenBy("if (pad.firstFault() != NONE) {", "if (pad.firstFault() != NONE && pad.firstFault() < pad.length) {")
            .brokenBy("if (pad.firstFault() != NONE) {", "if (pad.firstFault() != NONE) { pad.empty();");
    }

    private static void carriesOutInOrder() {
        StickRests s = Sticks.written("s228,128*2;b1;b3;u1;s0,0");
        due("carried out", s.carryOut(), 6);
        due("samples", s.count(0), 3);
        due("buttons", s.count(6), 8);
        due("shakes", s.count(3), 3);
        due("the latest x, y", s.of(0, 2) * 1000 + s.of(1, 2), 0);
        due("the first direction", s.direction(0, 0), 2);
        due("one behind the other", s.direction(0, 3), 2);
        s = Sticks.written("b0;u0;b0;u0;b0;u0;b0;u0;b0;u0;b0;u0;b0;u0;b0;u0;b0;u0;b0;u0;b0;u0;b0;u0;b0;u0");
        due("26 orders", s.carryOut(), 26);
        s = Sticks.written(LONGEST);
        due("the longest", s.carryOut(), 8991);
        due("samples", s.count(0), 8991);
    }

    private static void stopsAt(String text, int orders, int samples, int buttons) {
        StickRests s = Sticks.written(text);
        due(text, s.carryOut(), orders);
        due("samples of " + text, s.count(0), samples);
        due("buttons of " + text, s.count(6), buttons);
    }

    private static void carriesOutUpToAnError() {
        stopsAt("s1,2;b9;s3,4", 1, 1, 0);
        stopsAt("b8;b1", 0, 0, 0);
        stopsAt("u8;b1", 0, 0, 0);
        stopsAt("b1;b1;b2", 1, 0, 2);
        stopsAt("u1;b1", 0, 0, 0);
        stopsAt("b7;u7;u7;b6", 2, 0, 0);
        stopsAt("s255,255*3;s256,0*3;s1,1", 3, 3, 0);
        stopsAt("s0,256;b0", 0, 0, 0);
        stopsAt("s999,999*999;b0", 0, 0, 0);
        stopsAt("b0;s255,255", 2, 1, 1);
        StickRests s = Sticks.sampled(9990);
        Sticks.write(s, "s128,128*20;b0");
        due("up to 9999", s.carryOut(), 9);
        due("samples", s.count(0), 9999);
        due("none behind it", s.count(6), 0);
        Sticks.write(s, "b0;s1,1;b1");
        due("no more samples", s.carryOut(), 1);
        due("buttons", s.count(6), 1);
    }

    private static void carriesOutAndEmpties() {
        for (String text : new String[] {"b1", "s1,2*9;b0", "b1;b1;b1", "u0", "s256,0", "s1,1*0"}) {
            StickRests s = Sticks.written(text);
            s.carryOut();
            due("length behind " + text, s.count(17), 0);
            due("so there is a fault behind " + text, s.fault(), 0);
        }
    }

    private static void carriesOutAsOneChange() {
        StickRests s = Sticks.written("s200,128*5;b1;b2");
        s.sample(10, 10);
        due("seven", s.carryOut(), 7);
        due("changes", s.count(18), 2);
        due("undone", s.undo(), 1);
        due("samples", s.count(0), 1);
        due("buttons", s.count(6), 0);
        Sticks.write(s, "u1");
        due("none", s.carryOut(), 0);
        due("changes, though none was carried out", s.count(18), 2);
        Sticks.write(s, "s1,1*0");
        due("none of a sample", s.carryOut(), 0);
        due("changes, though there was no order", s.count(18), 3);
        due("undone", s.undo(), 2);
        due("undone", s.undo(), 1);
        due("samples", s.count(0), 1);
    }

    private static void carriesOutSoMany() {
        due("one", Sticks.written("b1").carryOut(), 1);
        due("each sample is one", Sticks.written("s1,1*5;u0").carryOut(), 5);
        due("the one with the error is none", Sticks.written("b1;b1").carryOut(), 1);
        due("all", Sticks.written("b1;u1;s1,1;s2,2*3").carryOut(), 6);
        due("none", Sticks.written("u1").carryOut(), 0);
        due("none of a sample", Sticks.written("s1,1*0").carryOut(), 0);
    }

    private static void carriesOutNoFault() {
        StickRests s = new StickRests();
        due("empty", s.carryOut(), -3);
        Sticks.write(s, "b1;s1,2;");
        due("ends too early", s.carryOut(), -3);
        due("it stays", s.count(17), 8);
        due("buttons", s.count(6), 0);
        due("changes", s.count(18), 0);
        Sticks.write(s, "u1");
        due("mended", s.carryOut(), 3);
        s = Sticks.written("b1;bx");
        due("a wrong character", s.carryOut(), -3);
        due("it stays, too", s.wipe(), 5);
        due("buttons", s.count(6), 0);
    }
}
