/** The boundary cases of promises 22 to 26: a test for each sentence of the document that names one. */
public final class ToldEdgesTest {
    private static final int[] NOBODY = {Integer.MIN_VALUE, -5, -1, 5, 6, 25, Integer.MAX_VALUE};
    private static final byte[] CONTENT = Check.content(2048);

    public static void main(String[] args) {
        knownByNobody();
        knownOfNobody();
        knownOfItself();
        knownOfAnotherWhat();
        knownWhereNotConnected();
        knownOfOneNotThere();
        knownOf64Pieces();
        knownOf4000Bytes();
        reasonOfTheLatest();
        reasonWithout();
        reasonOfEach();
        pieceOfNoneSuch();
        pieceOfLast();
        pieceOfEachKind();
        toldOfNoneSuch();
        toldWhereNotConnected();
        toldOfLast();
        diskOfNoneSuch();
        diskOf4096();
        diskOfShorterOne();
        countOfOneNotThere();
        countOfAnotherWhat();
        countStays();
        Check.finish();
    }

    /** Client 0 is full, 64 PIECES of 32 bytes; 1 has nothing, 2 is not there; 0 and 1 are CONNECTED, and 1 and outside. */
    private static SwarmDesk pair() {
        SwarmDesk desk = Check.made(CONTENT, 32);
        desk.client(0, true);
        desk.client(1, false);
        desk.connect(0, 1);
        desk.connect(1, 4);
        desk.hear(1);
        return desk;
    }

    // Promise 22: "NONE: a is not there, b is none of 0 .. 4 or a itself, or for another what."

    private static void knownByNobody() {
        SwarmDesk desk = pair();
        for (int what = 0; what < 10; what++) {
            Check.same("known by 2, who is not there", desk.known(2, 0, what), -1);
            Check.same("known by 3 of outside", desk.known(3, 4, what), -1);
            Check.same("known by outside, who is no CLIENT", desk.known(4, 1, what), -1);
        }
        for (int k : NOBODY) {
            Check.same("known by " + k, desk.known(k, 0, 0), -1);
            Check.same("known by " + k + " of itself", desk.known(k, k, 0), -1);
        }
        Check.same("known without METAINFO", new SwarmDesk().known(0, 1, 0), -1);
    }

    private static void knownOfNobody() {
        SwarmDesk desk = pair();
        for (int k : NOBODY) {
            for (int what = 0; what < 10; what++) {
                Check.same("known of " + k, desk.known(0, k, what), -1);
            }
        }
    }

    private static void knownOfItself() {
        SwarmDesk desk = pair();
        for (int what = 0; what < 10; what++) {
            Check.same("0 of itself", desk.known(0, 0, what), -1);
            Check.same("1 of itself", desk.known(1, 1, what), -1);
        }
    }

    private static void knownOfAnotherWhat() {
        SwarmDesk desk = pair();
        for (int what : new int[] {Integer.MIN_VALUE, -1, 10, 11, 256, Integer.MAX_VALUE}) {
            Check.same("what " + what + " of 1", desk.known(0, 1, what), -1);
            Check.same("what " + what + " of outside, not CONNECTED", desk.known(0, 4, what), -1);
        }
    }

    // "(1 to 8 are 0 where they are not CONNECTED.)"

    private static void knownWhereNotConnected() {
        SwarmDesk desk = pair();
        desk.pump(12);
        desk.client(3, true);
        for (int what = 0; what < 10; what++) {
            Check.same("0 of outside, " + what, desk.known(0, 4, what), 0);
            Check.same("3 of 0, " + what, desk.known(3, 0, what), 0);
            Check.same("0 of 3, " + what, desk.known(0, 3, what), 0);
        }
        Check.same("ASKED of 0 by 1", desk.known(1, 0, 7), 4);
        desk.close(0, 1);
        for (int what = 0; what < 10; what++) {
            Check.same("0 of 1 behind a close, " + what, desk.known(0, 1, what), 0);
            Check.same("1 of 0 behind a close, " + what, desk.known(1, 0, what), 0);
        }
    }

    /** b need not be there. */
    private static void knownOfOneNotThere() {
        SwarmDesk desk = pair();
        for (int what = 0; what < 10; what++) {
            Check.same("0 of 2, who is not there, " + what, desk.known(0, 2, what), 0);
        }
    }

    private static void knownOf64Pieces() {
        SwarmDesk desk = pair();
        Check.same("none at first", desk.known(1, 0, 6), 0);
        desk.pump(4);
        Check.same("all of 64", desk.known(1, 0, 6), 64);
        Check.same("none the other way", desk.known(0, 1, 6), 0);
    }

    private static void knownOf4000Bytes() {
        SwarmDesk desk = pair();
        Check.same("an empty WIRE", desk.known(1, 4, 8), 0);
        Check.say(desk, 1, new byte[4000]);
        Check.same("a full WIRE", desk.known(1, 4, 8), 4000);
        Check.say(desk, 1, new byte[1]);
        Check.same("a full WIRE still", desk.known(1, 4, 8), 4000);
    }

    // "9: the reason with which a CONNECTION of theirs was CLOSED latest (0 without, and when one of them was begun anew)"

    private static SwarmDesk broken() {
        SwarmDesk desk = pair();
        Check.say(desk, 1, new byte[68]);
        Check.same("a broken HELLO", desk.act(1, 4), 21);
        return desk;
    }

    private static void reasonOfTheLatest() {
        SwarmDesk desk = broken();
        Check.same("the reason", desk.known(1, 4, 9), 1);
        desk.connect(1, 4);
        Check.same("the latest, while they are CONNECTED", desk.known(1, 4, 9), 1);
        Check.say(desk, 1, Check.hello(Check.hash(desk)), Check.number(101));
        desk.act(1, 4);
        Check.same("the latest, behind a HELLO", desk.known(1, 4, 9), 1);
        Check.same("CLOSED again", desk.act(1, 4), 22);
        Check.same("the latest one", desk.known(1, 4, 9), 2);
        Check.same("of theirs alone", desk.known(1, 0, 9), 0);
        desk.connect(1, 4);
        desk.close(1, 4);
        Check.same("the latest was without", desk.known(1, 4, 9), 0);
    }

    private static void reasonWithout() {
        SwarmDesk desk = pair();
        Check.same("0 and 1", desk.known(0, 1, 9), 0);
        Check.same("0 and outside, who never were CONNECTED", desk.known(0, 4, 9), 0);
        SwarmDesk anew = broken();
        anew.client(1, false);
        Check.same("begun anew", anew.known(1, 4, 9), 0);
        SwarmDesk other = broken();
        other.client(0, false);
        Check.same("another one was begun anew", other.known(1, 4, 9), 1);
    }

    private static void reasonOfEach() {
        byte[][] bad = {Check.number(101), Check.message(0, new byte[1]), Check.message(4, Check.number(64)),
            Check.join(Check.message(2), Check.message(5, new byte[8])), Check.request(0, 0, 0)};
        int[] acts = {1, 1, 1, 2, 1};
        for (int i = 0; i < bad.length; i++) {
            SwarmDesk desk = pair();
            Check.say(desk, 1, Check.hello(Check.hash(desk)), bad[i]);
            for (int n = 0; n < acts[i]; n++) {
                desk.act(1, 4);
            }
            Check.same("reason " + (2 + i) + " by the answer", desk.act(1, 4), 22 + i);
            Check.same("reason " + (2 + i), desk.known(1, 4, 9), 2 + i);
        }
    }

    // Promise 23: "NONE if there is none such."

    private static void pieceOfNoneSuch() {
        SwarmDesk desk = pair();
        for (int p : new int[] {Integer.MIN_VALUE, -64, -1, 64, 65, 128, Integer.MAX_VALUE}) {
            Check.same("PIECE " + p + " of a full one", desk.piece(0, p), -1);
            Check.same("PIECE " + p + " of the other one", desk.piece(1, p), -1);
        }
        Check.same("PIECE 0 of 2, who is not there", desk.piece(2, 0), -1);
        Check.same("PIECE 0 of outside", desk.piece(4, 0), -1);
        for (int k : NOBODY) {
            Check.same("PIECE 0 of " + k, desk.piece(k, 0), -1);
        }
        Check.same("without METAINFO", new SwarmDesk().piece(0, 0), -1);
        SwarmDesk one = Check.made(Check.content(32), 32);
        one.client(0, true);
        Check.same("PIECE 1 of one", one.piece(0, 1), -1);
    }

    private static void pieceOfLast() {
        SwarmDesk desk = pair();
        Check.same("PIECE 63 of a full one", desk.piece(0, 63), 2);
        Check.same("PIECE 63 of the other one", desk.piece(1, 63), 0);
        desk.pump(2000);
        Check.same("PIECE 63 that came", desk.piece(1, 63), 2);
    }

    // "2 if it HAS it, else 1 if a BLOCK of it CAME, else 0"

    private static void pieceOfEachKind() {
        byte[] content = Check.content(128);
        SwarmDesk desk = Check.greeted(content, 65, false);
        Check.say(desk, 0, Check.message(1), Check.message(4, Check.number(0)), Check.block(content, 65, 0, 64, 1),
            Check.block(content, 65, 0, 0, 64));
        desk.act(0, 4);
        desk.act(0, 4);
        Check.same("ASKED alone", desk.piece(0, 0), 0);
        desk.act(0, 4);
        Check.same("a BLOCK of one byte CAME", desk.piece(0, 0), 1);
        Check.same("of that PIECE alone", desk.piece(0, 1), 0);
        desk.act(0, 4);
        Check.same("all CAME", desk.piece(0, 0), 2);
    }

    // Promise 24: "NONE if there is none such (of either), or they are not CONNECTED."

    private static void toldOfNoneSuch() {
        SwarmDesk desk = pair();
        for (int p : new int[] {Integer.MIN_VALUE, -64, -1, 64, 65, 128, Integer.MAX_VALUE}) {
            Check.same("PIECE " + p, desk.told(1, 0, p), -1);
        }
        for (int k : NOBODY) {
            Check.same("told to " + k, desk.told(k, 0, 0), -1);
            Check.same("told of " + k, desk.told(0, k, 0), -1);
        }
        Check.same("told to one that is not there", desk.told(2, 0, 0), -1);
        Check.same("told of one that is not there", desk.told(0, 2, 0), -1);
        Check.same("told to outside", desk.told(4, 1, 0), -1);
        Check.same("told of itself", desk.told(0, 0, 0), -1);
        Check.same("without METAINFO", new SwarmDesk().told(0, 1, 0), -1);
    }

    private static void toldWhereNotConnected() {
        SwarmDesk desk = pair();
        Check.same("0 of outside", desk.told(0, 4, 0), -1);
        desk.pump(4);
        Check.same("1 of 0", desk.told(1, 0, 0), 1);
        desk.close(0, 1);
        Check.same("1 of 0 behind a close", desk.told(1, 0, 0), -1);
        desk.connect(0, 1);
        Check.same("1 of 0, CONNECTED anew", desk.told(1, 0, 0), 0);
    }

    private static void toldOfLast() {
        SwarmDesk desk = pair();
        Check.say(desk, 1, Check.hello(Check.hash(desk)), Check.message(4, Check.number(63)));
        desk.act(1, 4);
        Check.same("PIECE 63 ahead of HAVE", desk.told(1, 4, 63), 0);
        desk.act(1, 4);
        Check.same("PIECE 63", desk.told(1, 4, 63), 1);
        Check.same("PIECE 62", desk.told(1, 4, 62), 0);
        Check.same("PIECE 31", desk.told(1, 4, 31), 0);
        Check.same("PIECE 0", desk.told(1, 4, 0), 0);
    }

    // Promise 25: "Byte i of CLIENT a's disk; NONE if there is none such."

    private static void diskOfNoneSuch() {
        SwarmDesk desk = pair();
        Check.same("the first byte", desk.disk(0, 0), CONTENT[0] & 255);
        Check.same("the last byte", desk.disk(0, 2047), CONTENT[2047] & 255);
        Check.same("the last byte of nothing", desk.disk(1, 2047), 0);
        for (int i : new int[] {Integer.MIN_VALUE, -1, 2048, 4095, 4096, Integer.MAX_VALUE}) {
            Check.same("byte " + i + " of a full one", desk.disk(0, i), -1);
            Check.same("byte " + i + " of the other one", desk.disk(1, i), -1);
        }
        Check.same("one that is not there", desk.disk(2, 0), -1);
        Check.same("outside", desk.disk(4, 0), -1);
        for (int k : NOBODY) {
            Check.same("the disk of " + k, desk.disk(k, 0), -1);
        }
        Check.same("without METAINFO", new SwarmDesk().disk(0, 0), -1);
    }

    private static void diskOf4096() {
        byte[] most = Check.content(4096);
        SwarmDesk desk = Check.made(most, 64);
        desk.client(0, true);
        desk.client(1, false);
        Check.same("the last byte", desk.disk(0, 4095), most[4095] & 255);
        Check.same("the last byte of nothing", desk.disk(1, 4095), 0);
        Check.same("behind it", desk.disk(0, 4096), -1);
        Check.same("behind it, of nothing", desk.disk(1, 4096), -1);
        desk.connect(0, 1);
        desk.pump(2000);
        Check.same("the last byte that came", desk.disk(1, 4095), most[4095] & 255);
    }

    /** Disks have the LENGTH of METAINFO, whatever it was before. */
    private static void diskOfShorterOne() {
        SwarmDesk desk = pair();
        Check.tape(desk, Check.content(1));
        desk.make(32);
        Check.same("no disk behind make", desk.disk(0, 0), -1);
        desk.client(0, true);
        desk.client(1, false);
        Check.same("the one byte", desk.disk(0, 0), Check.content(1)[0] & 255);
        Check.same("the one byte of nothing", desk.disk(1, 0), 0);
        Check.same("behind it", desk.disk(0, 1), -1);
        Check.same("behind it, of nothing", desk.disk(1, 1), -1);
    }

    // Promise 26: "NONE if it is not there, or for another what."

    private static void countOfOneNotThere() {
        SwarmDesk desk = pair();
        for (int what = 0; what < 5; what++) {
            Check.same("2, who is not there", desk.count(2, what), -1);
            Check.same("outside", desk.count(4, what), -1);
            Check.same("without METAINFO", new SwarmDesk().count(0, what), -1);
        }
        for (int k : NOBODY) {
            Check.same("count of " + k, desk.count(k, 0), -1);
        }
    }

    private static void countOfAnotherWhat() {
        SwarmDesk desk = pair();
        for (int what : new int[] {Integer.MIN_VALUE, -1, 5, 6, 256, Integer.MAX_VALUE}) {
            Check.same("what " + what, desk.count(0, what), -1);
        }
        int[] due = {64, 0, 0, 0, 0};
        for (int what = 0; what < 5; what++) {
            Check.same("what " + what + " at first", desk.count(0, what), due[what]);
        }
    }

    /** A CLOSED CONNECTION takes nothing from what was counted. */
    private static void countStays() {
        SwarmDesk desk = pair();
        desk.pump(2000);
        desk.close(0, 1);
        int[] gave = {64, 0, 64, 0, 0};
        int[] took = {64, 64, 0, 0, 0};
        for (int what = 0; what < 5; what++) {
            Check.same("of the one that gave, " + what, desk.count(0, what), gave[what]);
            Check.same("of the one that took, " + what, desk.count(1, what), took[what]);
        }
    }
}
