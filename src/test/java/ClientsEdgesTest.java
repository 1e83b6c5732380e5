import java.util.Arrays;

/** The boundary cases of promises 14 to 19, and of part 2 of the terms: a test for each sentence that names one. */
public final class ClientsEdgesTest {
    private static final int[] NO_CLIENT = {Integer.MIN_VALUE, -1, 4, 5, 8, Integer.MAX_VALUE};
    private static final int[] NOBODY = {Integer.MIN_VALUE, -5, -1, 5, 6, 25, Integer.MAX_VALUE};
    private static final byte[] CONTENT = Check.content(128);

    public static void main(String[] args) {
        firstAndLastClient();
        noSuchClient();
        clientWithoutMetainfo();
        fullWithoutContent();
        fullWithoutContentLeavesWhatWas();
        begunAnewIsConnectedWithNobody();
        begunAnewIsWithoutReason();
        begunAnewHasNumbers0();
        begunAnewHasNothing();
        begunAnewIsFull();
        disksAreEachClientsOwn();
        connectOneNotThere();
        connectBothOne();
        connectNobody();
        connectAgain();
        connectAll();
        connectedKnowNothing();
        connectedAnewKnowNothing();
        helloOfEach();
        closeOfNone();
        closeEitherWay();
        closeWithReason0();
        closeLeavesTheOthers();
        closeKeepsBlocks();
        sayOfEmptyTape();
        sayUpTo4000();
        sayBeyond4000();
        sayWhereThereIsRoomAgain();
        sayWithoutConnection();
        hearOfEmptyWire();
        hearOfFullWire();
        hearWithoutConnection();
        meddleFirstAndLast();
        meddleOfNoneSuch();
        meddleOfEmptyWire();
        meddleWithoutConnection();
        meddleKeepsEightBits();
        meddleOneWayAlone();
        meddleInFullWire();
        Check.finish();
    }

    /** Clients 0 .. 3, of whom 0 is full. */
    private static SwarmDesk four() {
        SwarmDesk desk = Check.made(CONTENT, 64);
        for (int k = 0; k < 4; k++) {
            desk.client(k, k == 0);
        }
        return desk;
    }

    private static SwarmDesk loaded() {
        SwarmDesk desk = new SwarmDesk();
        Check.load(desk, Draft.right().text());
        return desk;
    }

    // Promise 14: "False: no such CLIENT, no METAINFO, or full without CONTENT."

    private static void firstAndLastClient() {
        SwarmDesk desk = Check.made(CONTENT, 64);
        Check.yes("client 0", desk.client(0, false));
        Check.yes("client 3", desk.client(3, true));
        int[] pieces = {0, -1, -1, 2};
        for (int k = 0; k < 4; k++) {
            Check.same("pieces of client " + k, desk.count(k, 0), pieces[k]);
        }
    }

    private static void noSuchClient() {
        SwarmDesk desk = Check.made(CONTENT, 64);
        for (int k : NO_CLIENT) {
            Check.no("client " + k, desk.client(k, false));
            Check.no("full client " + k, desk.client(k, true));
            Check.same("count of " + k, desk.count(k, 0), -1);
        }
    }

    private static void clientWithoutMetainfo() {
        SwarmDesk desk = new SwarmDesk();
        Check.load(desk, "de");
        for (int k = 0; k < 4; k++) {
            Check.no("client without METAINFO", desk.client(k, false));
            Check.no("full client without METAINFO", desk.client(k, true));
            Check.same("it is not there", desk.count(k, 0), -1);
        }
    }

    private static void fullWithoutContent() {
        SwarmDesk desk = loaded();
        Check.no("full without CONTENT", desk.client(0, true));
        Check.same("it is not there", desk.count(0, 0), -1);
        Check.yes("with nothing", desk.client(0, false));
        SwarmDesk made = Check.made(CONTENT, 64);
        Check.load(made, Draft.right().text());
        Check.no("full without CONTENT any more", made.client(0, true));
    }

    private static void fullWithoutContentLeavesWhatWas() {
        SwarmDesk desk = loaded();
        desk.client(0, false);
        desk.client(1, false);
        desk.connect(0, 1);
        Check.no("full without CONTENT", desk.client(0, true));
        Check.same("it is there", desk.count(0, 0), 0);
        Check.same("and CONNECTED", desk.known(0, 1, 8), 68);
    }

    // "CLIENT k is there from now on, begun anew (its CONNECTIONS are no more, without a reason, its numbers 0)"

    private static void connectEach(SwarmDesk desk) {
        for (int a = 0; a < 4; a++) {
            for (int b = a + 1; b < 5; b++) {
                Check.yes("connect " + a + " with " + b, desk.connect(a, b));
            }
        }
    }

    private static void begunAnewIsConnectedWithNobody() {
        for (int k = 0; k < 4; k++) {
            SwarmDesk desk = four();
            connectEach(desk);
            Check.yes("begun anew", desk.client(k, false));
            for (int a = 0; a < 4; a++) {
                for (int b = 0; b < 5; b++) {
                    if (a != b) {
                        int due = a == k || b == k ? 0 : 1;
                        Check.same(a + " and " + b + " behind " + k, desk.known(a, b, 0), due);
                        Check.same("the WIRE to " + a + " from " + b, desk.known(a, b, 8), b == 4 ? 0 : 68 * due);
                    }
                }
            }
            Check.same("what outside may hear from " + k, desk.hear(k), -1);
        }
    }

    /** Each of the ten CONNECTIONS is CLOSED with 1, by a HELLO that is broken. */
    private static SwarmDesk brokenEach() {
        SwarmDesk desk = four();
        connectEach(desk);
        for (int a = 0; a < 4; a++) {
            Check.say(desk, a, new byte[68]);
            Check.same("a broken HELLO from outside", desk.act(a, 4), 21);
            for (int b = a + 1; b < 4; b++) {
                desk.meddle(b, a, 0, 18);
                Check.same("a broken HELLO", desk.act(a, b), 21);
            }
        }
        return desk;
    }

    private static void begunAnewIsWithoutReason() {
        for (int k = 0; k < 4; k++) {
            SwarmDesk desk = brokenEach();
            desk.client(k, k == 1);
            for (int a = 0; a < 4; a++) {
                for (int b = 0; b < 5; b++) {
                    if (a != b) {
                        Check.same("reason of " + a + " and " + b + " behind " + k, desk.known(a, b, 9), a == k || b == k ? 0 : 1);
                    }
                }
            }
        }
    }

    /** Client 0 has PIECE 0, TAKEN 2, SENT 1, FAILED 1, UNASKED 1, and is CONNECTED no more. */
    private static SwarmDesk counted() {
        SwarmDesk desk = Check.greeted(CONTENT, 64, false);
        byte[] wrong = CONTENT.clone();
        wrong[127] ^= 1;
        Check.say(desk, 0, Check.message(1), Check.message(4, Check.number(0)), Check.block(CONTENT, 64, 0, 0, 64), Check.message(2),
            Check.request(0, 0, 1), Check.block(CONTENT, 64, 0, 0, 64), Check.message(4, Check.number(1)),
            Check.block(wrong, 64, 1, 0, 64));
        Check.same("acts", desk.pump(2000), 8);
        int[] due = {1, 2, 1, 1, 1};
        for (int what = 0; what < 5; what++) {
            Check.same("count " + what, desk.count(0, what), due[what]);
        }
        Check.same("the reason", desk.known(0, 4, 9), 7);
        return desk;
    }

    private static void begunAnewHasNumbers0() {
        for (int full = 0; full < 2; full++) {
            SwarmDesk desk = counted();
            desk.client(0, full == 1);
            Check.same("PIECES", desk.count(0, 0), 2 * full);
            for (int what = 1; what < 5; what++) {
                Check.same("count " + what + " of one begun anew", desk.count(0, what), 0);
            }
        }
    }

    // "with nothing (its disk is 0s)"

    private static void begunAnewHasNothing() {
        SwarmDesk desk = counted();
        Check.same("a byte of what it HAS", desk.disk(0, 0), CONTENT[0] & 255);
        desk.client(0, false);
        for (int i = 0; i < 128; i++) {
            Check.same("byte " + i + " of a disk begun anew", desk.disk(0, i), 0);
        }
        Check.same("PIECE 0", desk.piece(0, 0), 0);
        Check.same("PIECE 1", desk.piece(0, 1), 0);
        SwarmDesk half = Check.greeted(CONTENT, 128, false);
        Check.say(half, 0, Check.message(1), Check.message(4, Check.number(0)), Check.block(CONTENT, 128, 0, 64, 64));
        half.pump(3);
        Check.same("a BLOCK CAME", half.piece(0, 0), 1);
        half.client(0, false);
        Check.same("no BLOCK CAME", half.piece(0, 0), 0);
        Check.same("its last byte", half.disk(0, 127), 0);
    }

    // "or, full, with the CONTENT, and it HAS all PIECES"

    private static void begunAnewIsFull() {
        SwarmDesk desk = counted();
        desk.client(0, true);
        for (int i = 0; i < 128; i++) {
            Check.same("byte " + i + " of a full disk", desk.disk(0, i), CONTENT[i] & 255);
        }
        Check.same("behind it", desk.disk(0, 128), -1);
        Check.same("PIECE 0", desk.piece(0, 0), 2);
        Check.same("PIECE 1", desk.piece(0, 1), 2);
        SwarmDesk most = Check.made(Check.content(2048), 32);
        most.client(0, true);
        Check.same("PIECE 63", most.piece(0, 63), 2);
        Check.same("all 64", most.count(0, 0), 64);
    }

    private static void disksAreEachClientsOwn() {
        SwarmDesk desk = counted();
        for (int k = 1; k < 4; k++) {
            desk.client(k, k == 2);
            Check.same("the last byte of " + k, desk.disk(k, 127), k == 2 ? CONTENT[127] & 255 : 0);
        }
        Check.same("the wrong byte of 0", desk.disk(0, 127), (CONTENT[127] ^ 1) & 255);
    }

    // Promise 15: "a and b, one of which may be OUTSIDE, are CONNECTED. False: one is not there, both are one,
    // or they are CONNECTED."

    private static void connectOneNotThere() {
        SwarmDesk desk = Check.made(CONTENT, 64);
        Check.no("two that are not there", desk.connect(0, 1));
        Check.no("outside and one that is not there", desk.connect(4, 0));
        desk.client(1, false);
        Check.no("the first is not there", desk.connect(0, 1));
        Check.no("the second is not there", desk.connect(1, 0));
        Check.no("the first is not there, outside", desk.connect(0, 4));
        Check.yes("with outside", desk.connect(1, 4));
        desk.client(0, false);
        Check.yes("now both are there", desk.connect(0, 1));
    }

    private static void connectBothOne() {
        SwarmDesk desk = four();
        for (int k = 0; k < 5; k++) {
            Check.no(k + " with itself", desk.connect(k, k));
        }
        Check.same("nothing to do", desk.pump(2000), 0);
    }

    private static void connectNobody() {
        SwarmDesk desk = four();
        for (int k : NOBODY) {
            Check.no("0 with " + k, desk.connect(0, k));
            Check.no(k + " with 0", desk.connect(k, 0));
            Check.no(k + " with outside", desk.connect(k, 4));
            Check.no("outside with " + k, desk.connect(4, k));
            Check.no(k + " with itself", desk.connect(k, k));
        }
    }

    private static void connectAgain() {
        SwarmDesk desk = four();
        Check.yes("0 with 1", desk.connect(0, 1));
        Check.no("0 with 1 again", desk.connect(0, 1));
        Check.no("1 with 0 again", desk.connect(1, 0));
        Check.yes("outside with 1", desk.connect(4, 1));
        Check.no("outside with 1 again", desk.connect(4, 1));
        Check.no("1 with outside again", desk.connect(1, 4));
        Check.same("one HELLO alone, to 0", desk.known(0, 1, 8), 68);
        Check.same("one HELLO alone, to 1", desk.known(1, 0, 8), 68);
        Check.same("one HELLO alone, to outside", desk.hear(1), 68);
        desk.act(0, 1);
        Check.no("0 with 1 behind a HELLO", desk.connect(0, 1));
        Check.same("the HELLO came", desk.known(0, 1, 1), 1);
    }

    private static void connectAll() {
        SwarmDesk desk = four();
        connectEach(desk);
        Check.same("all of it", desk.pump(2000) > 0 ? 1 : 0, 1);
        for (int k = 0; k < 4; k++) {
            Check.same("client " + k + " HAS all", desk.count(k, 0), 2);
        }
    }

    // "What a CLIENT knows of the other one at first"

    private static void knowsNothing(SwarmDesk desk, int a, int b, int bytes) {
        int[] due = {1, 0, 1, 0, 1, 0, 0, 0, bytes};
        for (int what = 0; what < due.length; what++) {
            Check.same("what " + a + " knows of " + b + " at first, " + what, desk.known(a, b, what), due[what]);
        }
        Check.same("no PIECE is told", desk.told(a, b, 0) + desk.told(a, b, 1), 0);
    }

    private static void connectedKnowNothing() {
        SwarmDesk desk = four();
        connectEach(desk);
        for (int a = 0; a < 4; a++) {
            for (int b = 0; b < 5; b++) {
                if (a != b) {
                    knowsNothing(desk, a, b, b == 4 ? 0 : 68);
                }
            }
        }
    }

    private static void connectedAnewKnowNothing() {
        SwarmDesk desk = four();
        desk.connect(0, 1);
        desk.connect(1, 4);
        desk.hear(1);
        Check.say(desk, 1, Check.hello(Check.hash(desk)), Check.message(5, Check.bytes(0x80)), Check.message(1), Check.message(2),
            Check.bytes(0, 0, 0));
        desk.pump(12);
        Check.same("1 knows of 0", desk.known(1, 0, 6), 2);
        Check.same("1 is INTERESTED in outside", desk.known(1, 4, 3), 1);
        desk.close(0, 1);
        desk.close(1, 4);
        desk.connect(1, 0);
        desk.connect(4, 1);
        knowsNothing(desk, 0, 1, 68);
        knowsNothing(desk, 1, 0, 68);
        knowsNothing(desk, 1, 4, 0);
        Check.same("outside hears a HELLO alone", desk.hear(1), 68);
        // A BITFIELD may come again, as nothing came ahead of it.
        Check.say(desk, 1, Check.hello(Check.hash(desk)), Check.message(5, Check.bytes(0x40)));
        Check.same("a HELLO", desk.act(1, 4), 10);
        Check.same("a BITFIELD", desk.act(1, 4), 5);
    }

    // "its NAME: -JD0001- , eleven digits 0 and the digit of its number"

    private static void helloOfEach() {
        SwarmDesk desk = four();
        for (int k = 0; k < 4; k++) {
            desk.connect(4, k);
            byte[] heard = Check.hear(desk, k);
            Check.same("bytes of a HELLO", heard.length, 68);
            Check.sameBytes("eight bytes 0", Arrays.copyOfRange(heard, 20, 28), new byte[8]);
            Check.sameBytes("NAME of " + k, Arrays.copyOfRange(heard, 48, 68), Check.text("-JD0001-00000000000" + k));
        }
    }

    // Promise 16: "Their CONNECTION is CLOSED, 0. False if there is none."

    private static void closeOfNone() {
        SwarmDesk desk = four();
        desk.connect(0, 1);
        desk.connect(2, 4);
        Check.no("0 and 2", desk.close(0, 2));
        Check.no("0 and outside", desk.close(0, 4));
        Check.no("outside and 3", desk.close(4, 3));
        for (int k = 0; k < 5; k++) {
            Check.no(k + " and itself", desk.close(k, k));
        }
        for (int k : NOBODY) {
            Check.no("0 and " + k, desk.close(0, k));
            Check.no(k + " and 0", desk.close(k, 0));
            Check.no(k + " and outside", desk.close(k, 4));
        }
        Check.same("0 and 1 are CONNECTED", desk.known(0, 1, 0), 1);
        Check.same("2 and outside are CONNECTED", desk.known(2, 4, 0), 1);
        Check.no("of no METAINFO", new SwarmDesk().close(0, 1));
    }

    private static void closeEitherWay() {
        int[][] ways = {{0, 1, 0, 1}, {0, 1, 1, 0}, {0, 4, 0, 4}, {0, 4, 4, 0}, {4, 0, 0, 4}};
        for (int[] way : ways) {
            SwarmDesk desk = four();
            desk.connect(way[0], way[1]);
            Check.yes("close", desk.close(way[2], way[3]));
            Check.no("close again", desk.close(way[2], way[3]));
            Check.no("close again, the other way", desk.close(way[3], way[2]));
        }
    }

    // "both know nothing of one another any more but that reason (0 without one)"

    private static void closeWithReason0() {
        SwarmDesk desk = brokenEach();
        Check.same("a reason", desk.known(0, 1, 9), 1);
        desk.connect(0, 1);
        desk.pump(2000);
        desk.close(0, 1);
        for (int what = 0; what < 10; what++) {
            Check.same("what 0 knows, " + what, desk.known(0, 1, what), 0);
            Check.same("what 1 knows, " + what, desk.known(1, 0, what), 0);
        }
        Check.no("no WIRE", desk.meddle(0, 1, 0, 0));
        Check.no("no WIRE, the other way", desk.meddle(1, 0, 0, 0));
        Check.same("nothing to act on", desk.act(0, 1), -1);
    }

    private static void closeLeavesTheOthers() {
        SwarmDesk desk = four();
        connectEach(desk);
        desk.close(1, 2);
        for (int a = 0; a < 4; a++) {
            for (int b = 0; b < 5; b++) {
                if (a != b) {
                    Check.same(a + " and " + b, desk.known(a, b, 0), a + b == 3 && a * b == 2 ? 0 : 1);
                }
            }
        }
    }

    private static void closeKeepsBlocks() {
        SwarmDesk desk = Check.greeted(CONTENT, 128, false);
        Check.say(desk, 0, Check.message(1), Check.message(4, Check.number(0)), Check.block(CONTENT, 128, 0, 0, 64));
        desk.pump(3);
        desk.close(0, 4);
        Check.same("the BLOCK that CAME", desk.piece(0, 0), 1);
        Check.same("its bytes", desk.disk(0, 63), CONTENT[63] & 255);
        Check.same("TAKEN", desk.count(0, 1), 1);
    }

    // Promise 17: "how many bytes that has. NONE: there is no such CONNECTION, or there would be more than 4000."

    private static SwarmDesk outside() {
        SwarmDesk desk = Check.made(CONTENT, 64);
        desk.client(0, true);
        desk.client(1, true);
        desk.connect(0, 4);
        return desk;
    }

    private static void sayOfEmptyTape() {
        SwarmDesk desk = outside();
        Check.same("say nothing", desk.say(0), 0);
        Check.say(desk, 0, new byte[7]);
        Check.same("say nothing more", desk.say(0), 7);
        Check.same("the WIRE", desk.known(0, 4, 8), 7);
    }

    private static void sayUpTo4000() {
        SwarmDesk desk = outside();
        Check.same("say 4000", Check.say(desk, 0, new byte[4000]), 4000);
        Check.same("say nothing more", desk.say(0), 4000);
        SwarmDesk parts = outside();
        Check.same("say 1", Check.say(parts, 0, new byte[1]), 1);
        Check.same("say 3999 more", Check.say(parts, 0, new byte[3999]), 4000);
    }

    private static void sayBeyond4000() {
        for (int[] sizes : new int[][] {{0, 4001}, {1, 4000}, {3999, 2}, {4000, 1}, {0, 6000}}) {
            SwarmDesk desk = outside();
            Check.same("say", Check.say(desk, 0, new byte[sizes[0]]), sizes[0]);
            Check.same("say beyond 4000", Check.say(desk, 0, new byte[sizes[1]]), -1);
            Check.same("the TAPE behind it", desk.end(1), -1);
            Check.same("the WIRE stays", desk.known(0, 4, 8), sizes[0]);
            Check.same("they stay CONNECTED", desk.known(0, 4, 0), 1);
        }
    }

    private static void sayWhereThereIsRoomAgain() {
        SwarmDesk desk = outside();
        Check.same("say 4000", Check.say(desk, 0, Check.hello(Check.hash(desk)), new byte[3932]), 4000);
        Check.same("act on the HELLO", desk.act(0, 4), 10);
        Check.same("say 69 more", Check.say(desk, 0, new byte[69]), -1);
        Check.same("say 68 more", Check.say(desk, 0, new byte[68]), 4000);
        Check.same("KEEP ALIVES, all of them", desk.pump(2000), 1000);
    }

    private static void sayWithoutConnection() {
        SwarmDesk desk = outside();
        desk.connect(0, 1);
        for (int a : new int[] {1, 2, 4, -1, 5, Integer.MIN_VALUE, Integer.MAX_VALUE}) {
            Check.same("say to " + a, Check.say(desk, a, new byte[9]), -1);
            Check.same("the TAPE behind it", desk.end(1), -1);
        }
        desk.close(0, 4);
        Check.same("say to a closed one", Check.say(desk, 0, new byte[9]), -1);
        Check.same("say without METAINFO", Check.say(new SwarmDesk(), 0, new byte[9]), -1);
        Check.same("the WIRES of the others", desk.known(0, 1, 8) + desk.known(1, 0, 8), 136);
    }

    // Promise 18: "which is empty then: how many bytes. NONE, and OUT stays: there is no such CONNECTION."

    private static void hearOfEmptyWire() {
        SwarmDesk desk = outside();
        Check.same("hear the HELLO", desk.hear(0), 68);
        Check.same("the last byte of it", desk.out(67), '0');
        Check.same("behind it", desk.out(68), -1);
        Check.same("hear nothing", desk.hear(0), 0);
        Check.same("OUT is empty", desk.out(0), -1);
        Check.same("take nothing", desk.take(), 0);
    }

    private static void hearOfFullWire() {
        SwarmDesk desk = Check.greeted(CONTENT, 64, true);
        Check.say(desk, 0, Check.message(2));
        desk.act(0, 4);
        desk.hear(0);
        Check.fill(desk, 0, 4000);
        Check.same("hear 4000", desk.hear(0), 4000);
        Check.same("N of its first MESSAGE", desk.out(3), 73);
        Check.no("its last byte is none", desk.out(3999) == -1);
        Check.same("behind it", desk.out(4000), -1);
        Check.same("take 4000", desk.take(), 4000);
        Check.same("say 4000", desk.say(0), 4000);
        Check.same("hear nothing", desk.hear(0), 0);
    }

    private static void hearWithoutConnection() {
        SwarmDesk desk = outside();
        desk.connect(0, 1);
        desk.digest();
        for (int a : new int[] {1, 2, 4, -1, 5, Integer.MIN_VALUE, Integer.MAX_VALUE}) {
            Check.same("hear " + a, desk.hear(a), -1);
        }
        desk.close(0, 4);
        Check.same("hear a closed one", desk.hear(0), -1);
        Check.sameBytes("OUT stays", Check.out(desk, 20), Check.sha(new byte[0]));
    }

    // Promise 19: "Byte i of the WIRE from a to b becomes the lowest eight bits of v: true. False if there is none such."

    private static void meddleFirstAndLast() {
        SwarmDesk desk = outside();
        Check.yes("the first byte", desk.meddle(0, 4, 0, 'x'));
        Check.yes("the last byte", desk.meddle(0, 4, 67, 'y'));
        byte[] heard = Check.hear(desk, 0);
        Check.same("the first byte heard", heard[0], 'x');
        Check.same("the last byte heard", heard[67], 'y');
        Check.same("no other byte", heard[1], 'B');
    }

    private static void meddleOfNoneSuch() {
        SwarmDesk desk = outside();
        for (int i : new int[] {Integer.MIN_VALUE, -68, -1, 68, 69, 3999, 4000, Integer.MAX_VALUE}) {
            Check.no("byte " + i, desk.meddle(0, 4, i, 'x'));
        }
        byte[] due = Check.join(Check.bytes(19), Check.text("BitTorrent protocol"), new byte[8], Check.hash(desk),
            Check.text("-JD0001-000000000000"));
        Check.sameBytes("the HELLO stays", Check.hear(desk, 0), due);
    }

    private static void meddleOfEmptyWire() {
        SwarmDesk desk = outside();
        Check.no("from outside, that said nothing", desk.meddle(4, 0, 0, 1));
        desk.hear(0);
        Check.no("to outside, that heard all", desk.meddle(0, 4, 0, 1));
        desk.connect(0, 1);
        desk.act(1, 0);
        Check.no("to one that acted on all", desk.meddle(0, 1, 0, 1));
    }

    private static void meddleWithoutConnection() {
        SwarmDesk desk = outside();
        Check.no("0 to 1", desk.meddle(0, 1, 0, 1));
        Check.no("1 to outside", desk.meddle(1, 4, 0, 1));
        Check.no("0 to one that is not there", desk.meddle(0, 2, 0, 1));
        for (int k = 0; k < 5; k++) {
            Check.no(k + " to itself", desk.meddle(k, k, 0, 1));
        }
        for (int k : NOBODY) {
            Check.no("0 to " + k, desk.meddle(0, k, 0, 1));
            Check.no(k + " to 0", desk.meddle(k, 0, 0, 1));
            Check.no("outside to " + k, desk.meddle(4, k, 0, 1));
        }
        desk.close(0, 4);
        Check.no("0 to outside, closed", desk.meddle(0, 4, 0, 1));
    }

    private static void meddleKeepsEightBits() {
        int[] values = {255, 256, 257, -1, -256, -257, 0x7FFFFF80, Integer.MIN_VALUE, Integer.MAX_VALUE};
        int[] due = {255, 0, 1, 255, 0, 255, 128, 0, 255};
        SwarmDesk desk = outside();
        for (int i = 0; i < values.length; i++) {
            Check.yes("meddle with " + values[i], desk.meddle(0, 4, i, values[i]));
        }
        Check.sameBytes("what is heard", Arrays.copyOf(Check.hear(desk, 0), due.length), Check.bytes(due));
    }

    private static void meddleOneWayAlone() {
        SwarmDesk desk = outside();
        desk.connect(0, 1);
        Check.yes("0 to 1", desk.meddle(0, 1, 0, 18));
        Check.same("1's HELLO is as it was", desk.act(0, 1), 10);
        Check.same("outside's too", Check.hear(desk, 0)[0], 19);
        Check.same("0's HELLO to 1 is not", desk.act(1, 0), 21);
    }

    private static void meddleInFullWire() {
        SwarmDesk desk = outside();
        Check.say(desk, 0, new byte[4000]);
        Check.yes("byte 3999", desk.meddle(4, 0, 3999, 1));
        Check.no("byte 4000", desk.meddle(4, 0, 4000, 1));
    }
}
