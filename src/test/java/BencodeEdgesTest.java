/** The boundary cases of a VALUE, and of the place of FAULT 1: a test for each that part 1 of the terms names. */
public final class BencodeEdgesTest {
    public static void main(String[] args) {
        noZeroAhead();
        noMinusAheadOfZero();
        oneToNineDigits();
        oneToFourDigits();
        soManyBytes();
        anyBytes();
        emptyOnes();
        pairs();
        keysRise();
        keysOfAllBytes();
        keyThatBeginsAnother();
        keysOfEachDictAlone();
        keyBehindTheLast();
        eightOpen();
        eightOpenAgain();
        fullTape();
        firstByte();
        theEnd();
        byteBehind();
        digitTooMany();
        keyThatDoesNotRise();
        stringLongerThanLeft();
        firstFault();
        Check.finish();
    }

    private static void fault(String tape, int place) {
        SwarmDesk desk = new SwarmDesk();
        Check.same("load of " + tape, Check.load(desk, tape), 1);
        Check.same("place of " + tape, desk.place(), place);
        Check.same("the TAPE behind load", desk.end(1), -1);
    }

    /** One VALUE, though it is no METAINFO. */
    private static void sound(String tape) {
        SwarmDesk desk = new SwarmDesk();
        Check.same("load of " + tape, Check.load(desk, tape), 2);
        Check.same("place of " + tape, desk.place(), -1);
    }

    // "i, perhaps - , digits, e (no 0 ahead of other digits, no - ahead of 0; 1 to 9 digits)"

    private static void noZeroAhead() {
        sound("i0e");
        sound("i10e");
        sound("i-10e");
        sound("i100000000e");
        fault("i00e", 2);
        fault("i01e", 2);
        fault("i09e", 2);
        fault("i000000001e", 2);
        fault("li0ei02ee", 6);
    }

    private static void noMinusAheadOfZero() {
        sound("i-1e");
        sound("i-9e");
        fault("i-0e", 2);
        fault("i-00e", 2);
        fault("i-01e", 2);
        fault("i--1e", 2);
        fault("i1-e", 2);
    }

    private static void oneToNineDigits() {
        fault("ie", 1);
        fault("i-e", 2);
        sound("i9e");
        sound("i-9e");
        sound("i999999999e");
        sound("i-999999999e");
        fault("i1000000000e", 10);
        fault("i-1000000000e", 11);
        fault("i4294967297e", 10);
    }

    // "a STRING: a number (digits likewise, 1 to 4 of them), : , so many bytes"

    private static void oneToFourDigits() {
        fault(":", 0);
        fault(":a", 0);
        fault("-1:a", 0);
        sound("0:");
        sound("1:a");
        sound("10:0123456789");
        sound(Draft.text(9));
        sound(Draft.text(99));
        sound(Draft.text(999));
        sound(Draft.text(1000));
        fault("00:", 1);
        fault("01:a", 1);
        fault("00001:a", 1);
        fault("10000:", 4);
        fault("12345:a", 4);
        fault("l12345:ae", 5);
    }

    private static void soManyBytes() {
        sound("0:");
        fault("0:a", 2);
        fault("1:", 0);
        fault("2:a", 0);
        sound("2:ab");
        fault("2:abc", 4);
        sound("l0:0:e");
        sound("l1:ee");
        fault("l1:e", 4);
        sound("l3:i1ee");
    }

    private static void anyBytes() {
        StringBuilder all = new StringBuilder();
        for (char c = 0; c < 256; c++) {
            all.append(c);
            sound("1:" + c);
            sound("l1:" + c + "e");
        }
        sound(Draft.text(all.toString()));
    }

    // "or l, VALUES, e; or d, pairs of a STRING (its KEY) and a VALUE, e"

    private static void emptyOnes() {
        sound("le");
        sound("de");
        sound("lledee");
        sound("d0:de1:ale1:b0:e");
    }

    private static void pairs() {
        fault("d0:e", 3);
        fault("d1:ae", 4);
        fault("d1:ai1e1:be", 10);
        fault("di1ei1ee", 1);
        fault("dlei1ee", 1);
        fault("ddei1ee", 1);
        sound("d1:ai1ee");
        sound("d1:a1:ae");
    }

    // "the KEYS rising strictly (byte by byte from 0 to 255; one with which another one begins ahead of that)"

    private static String keys(String... keys) {
        StringBuilder all = new StringBuilder("d");
        for (String key : keys) {
            all.append(Draft.text(key)).append("i1e");
        }
        return all.append("e").toString();
    }

    private static void keysRise() {
        sound(keys("a", "b"));
        fault(keys("a", "a"), 7);
        fault(keys("b", "a"), 7);
        fault(keys("", ""), 6);
        sound(keys("ab", "b"));
        fault(keys("b", "ab"), 7);
        sound(keys("a".repeat(999) + "a", "a".repeat(999) + "b"));
        fault(keys("a".repeat(999) + "b", "a".repeat(999) + "a"), 1 + 5 + 1000 + 3);
        fault(keys("a".repeat(1000), "a".repeat(1000)), 1 + 5 + 1000 + 3);
    }

    /** A byte above 127 is no number below 0. */
    private static void keysOfAllBytes() {
        for (char c = 0; c < 255; c++) {
            char next = (char) (c + 1);
            sound(keys("k" + c, "k" + next));
            fault(keys("k" + next, "k" + c), 8);
        }
        sound(keys("\u0000", "\u00ff"));
        fault(keys("\u00ff", "\u0000"), 7);
        sound(keys("\u007f", "\u0080"));
        fault(keys("\u0080", "\u007f"), 7);
    }

    private static void keyThatBeginsAnother() {
        sound(keys("", "a"));
        fault(keys("a", ""), 7);
        sound(keys("a", "aa"));
        sound(keys("a", "a\u0000"));
        fault(keys("aa", "a"), 8);
        fault(keys("a\u0000", "a"), 8);
        sound(keys("123456789", "1234567890"));
        fault(keys("1234567890", "123456789"), 17);
    }

    private static void keysOfEachDictAlone() {
        sound("d1:bd1:ai1ee1:ci1ee");
        sound("d1:ad1:zi1ee1:bd1:ai1eee");
        fault("d1:bd1:ai1ee1:ai1ee", 12);
        fault("d1:bd1:ai1ee1:bi1ee", 12);
        sound("ld1:bi1eed1:ai1eee");
        sound("d1:a1:z1:b1:ae");
    }

    private static void keyBehindTheLast() {
        sound(keys("a", "b", "c"));
        fault(keys("a", "c", "b"), 13);
        fault(keys("b", "c", "a"), 13);
        fault(keys("a", "b", "b"), 13);
    }

    // "At most 8 l and d may be open at one place."

    private static void eightOpen() {
        sound("l".repeat(8) + "e".repeat(8));
        fault("l".repeat(9) + "e".repeat(9), 8);
        fault("l".repeat(8) + "de" + "e".repeat(8), 8);
        sound("d0:".repeat(8) + "0:" + "e".repeat(8));
        fault("d0:".repeat(8) + "de" + "e".repeat(8), 24);
        fault("d0:".repeat(8) + "le" + "e".repeat(8), 24);
        sound("ld0:".repeat(4) + "i1e" + "e".repeat(8));
        fault("ld0:".repeat(4) + "le" + "e".repeat(8), 16);
        fault("l".repeat(6000), 8);
        sound("l".repeat(8) + "i1e0:" + "e".repeat(8));
    }

    private static void eightOpenAgain() {
        sound("l".repeat(7) + "le".repeat(20) + "e".repeat(7));
        sound("l".repeat(7) + "ledele" + "e".repeat(7));
        fault("l".repeat(7) + "le" + "lle", 7 + 2 + 1);
        sound("l" + ("l".repeat(7) + "e".repeat(7)).repeat(30) + "e");
    }

    // "THE TAPE has at most 6000 bytes."

    private static void fullTape() {
        sound(Draft.text(5995));
        fault("5996:" + "x".repeat(5995), 0);
        fault("5994:" + "x".repeat(5995), 5999);
        sound("l" + "i1e".repeat(1998) + "0:" + "0:" + "e");
        fault("l" + "i1e".repeat(1999) + "0:", 6000);
        sound("l" + "0:".repeat(2999) + "e");
        sound("l" + "le".repeat(2999) + "e");
    }

    // "1, at the first byte with which no VALUE (nor what is in it) goes on"

    private static void firstByte() {
        for (char c = 0; c < 256; c++) {
            boolean begins = c >= '0' && c <= '9' || c == 'i' || c == 'l' || c == 'd';
            fault("" + c, begins ? 1 : 0);
            fault("i1e" + c, 3);
            if (c != 'e') {
                fault("l" + c, begins ? 2 : 1);
                fault("i12" + c, c >= '0' && c <= '9' ? 4 : 3);
                fault("d" + c, c >= '0' && c <= '9' ? 2 : 1);
            }
        }
    }

    // "(the end, too, as the length)"

    private static void theEnd() {
        String[] begun = {"", "i", "i-", "i1", "i-1", "i123456789", "1", "1234", "l", "li1e", "l0:", "lle", "d", "d1", "d1:a",
            "d1:ai", "d1:ai1e", "d1:ade", "llllllll"};
        for (String tape : begun) {
            fault(tape, tape.length());
        }
    }

    // "a byte behind the VALUE"

    private static void byteBehind() {
        fault("i1ee", 3);
        fault("i1ei1e", 3);
        fault("0:0:", 2);
        fault("1:aa", 3);
        fault("lee", 2);
        fault("dee", 2);
        fault("le\u0000", 2);
        fault(Draft.right().text() + "e", Draft.right().text().length());
    }

    // "a digit too many"

    private static void digitTooMany() {
        fault("i1234567890", 10);
        fault("i12345678901234567890e", 10);
        fault("12345", 4);
        fault("1234567890:", 4);
        fault("d12345:ae", 5);
        fault("d1:a12345:ae", 8);
    }

    // "the first digit of a KEY that does not rise"

    private static void keyThatDoesNotRise() {
        fault("d10:bbbbbbbbbb0:10:aaaaaaaaaa0:e", 1 + 13 + 2);
        fault("d2:bb0:2:ba0:e", 7);
        // It does not rise, whatever stands behind it.
        fault("d2:bb0:2:bax", 7);
        fault("d2:bb0:2:ba", 7);
        fault("l" + keys("a", "a"), 8);
    }

    // "of a STRING that is longer than what is left its first digit"

    private static void stringLongerThanLeft() {
        fault("9:12345678", 0);
        fault("9999:", 0);
        fault("10:123456789", 0);
        fault("l1:a2:b", 4);
        fault("d2:a", 1);
        fault("d1:a2:b", 4);
        fault("d1:b0:5:a", 6);
        fault("l0:1000:" + "x".repeat(999), 3);
    }

    /** What stands behind the first FAULT counts for nothing. */
    private static void firstFault() {
        fault("li01e00:e", 3);
        fault("l9:i01e", 1);
        fault("d1:bi01e1:ai1ee", 6);
        fault("xi01e", 0);
        fault("i1exx", 3);
    }
}
