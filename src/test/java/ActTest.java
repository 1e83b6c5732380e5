import java.util.ArrayList;
import java.util.Arrays;
import java.util.List;

/** Promises 20 and 21, and part 3 of the terms. */
public final class ActTest {
    public static void main(String[] args) {
        refused();
        hello();
        sizes();
        lengths();
        plain();
        have();
        bitfield();
        bitfieldFirst();
        request();
        requestAnswered();
        cancelAndUnknown();
        piece();
        pieceWrong();
        haveToAll();
        interest();
        choking();
        asking();
        rarest();
        chokeFrees();
        fullWire();
        fullWireByHave();
        pump();
        Check.finish();
    }

    /** Says that from outside to client 0 and lets it act once. */
    private static int after(SwarmDesk desk, byte[]... parts) {
        Check.say(desk, 0, parts);
        return desk.act(0, 4);
    }

    private static SwarmDesk open(boolean full) {
        return Check.greeted(Check.content(150), 64, full);
    }

    private static void refused() {
        SwarmDesk desk = Check.made(Check.content(150), 64);
        desk.client(0, true);
        desk.client(1, true);
        Check.same("act without a connection", desk.act(0, 1), -1);
        desk.connect(0, 1);
        desk.connect(0, 4);
        Check.same("outside acts not", desk.act(4, 0), -1);
        Check.same("nothing is there", desk.act(0, 4), -1);
        Check.same("with itself", desk.act(0, 0), -1);
        Check.same("nobody", desk.act(-1, 0), -1);
        Check.same("nobody", desk.act(0, 5), -1);
        Check.same("nobody", desk.act(Integer.MAX_VALUE, Integer.MIN_VALUE), -1);
        Check.same("one that is not there", desk.act(2, 0), -1);
        desk.act(0, 1);
        Check.say(desk, 0, Check.hello(Check.hash(desk)), Check.number(5), Check.bytes(4, 0, 0, 0));
        Check.same("a hello", desk.act(0, 4), 10);
        Check.same("a have that is not whole", desk.act(0, 4), -1);
        Check.same("it stays", desk.known(0, 4, 8), 8);
        Check.say(desk, 0, Check.bytes(1));
        Check.same("now it is", desk.act(0, 4), 4);
        Check.same("it is taken", desk.known(0, 4, 8), 0);
        Check.say(desk, 0, Check.bytes(0, 0, 0));
        Check.same("three bytes of four", desk.act(0, 4), -1);
    }

    private static void hello() {
        for (int i = 0; i < 68; i++) {
            SwarmDesk desk = Check.made(Check.content(150), 64);
            desk.client(0, true);
            desk.connect(0, 4);
            byte[] hello = Check.hello(Check.hash(desk));
            hello[i] ^= 1;
            boolean counts = i < 20 || i >= 28 && i < 48;
            Check.same("a hello with another byte " + i, after(desk, hello, new byte[4]), counts ? 21 : 10);
            Check.same("connected", desk.known(0, 4, 0), counts ? 0 : 1);
            Check.same("the hello came", desk.known(0, 4, 1), counts ? 0 : 1);
            Check.same("the reason", desk.known(0, 4, 9), counts ? 1 : 0);
        }
        SwarmDesk desk = Check.greeted(Check.content(150), 64, false);
        Check.same("one with nothing sends no bitfield", desk.hear(0), 0);
        desk = Check.greeted(Check.content(32 * 17), 32, true);
        Check.sameBytes("a bitfield", Check.hear(desk, 0), Check.message(5, Check.bytes(255, 255, 128)));
        desk = Check.greeted(Check.content(2048), 32, true);
        Check.sameBytes("a bitfield of 64", Check.hear(desk, 0), Check.message(5, Check.bytes(255, 255, 255, 255, 255, 255, 255, 255)));
    }

    private static void sizes() {
        for (long n : new long[] {101, 102, 255, 256, 65536, 0x7FFFFFFFL, 0x80000000L, 0xFFFFFFFFL}) {
            SwarmDesk desk = open(true);
            Check.same("a message of " + n, after(desk, Check.number(n)), 22);
            Check.same("the reason", desk.known(0, 4, 9), 2);
            Check.same("closed", desk.known(0, 4, 0), 0);
        }
        SwarmDesk desk = open(true);
        Check.same("a message of 100 that is not whole", after(desk, Check.number(100), new byte[99]), -1);
        Check.say(desk, 0, new byte[1]);
        Check.same("a choke of 100", desk.act(0, 4), 23);
        desk = open(true);
        Check.same("an unknown one of 100", after(desk, Check.message(9, new byte[99])), 11);
        Check.same("all of it is taken", desk.known(0, 4, 8), 0);
    }

    private static void lengths() {
        int[] due = {1, 1, 1, 1, 5, 2, 13, 0, 13};
        for (int kind = 0; kind < 9; kind++) {
            for (int n = 1; n <= 100; n++) {
                boolean right = kind == 7 ? n >= 10 && n <= 73 : n == due[kind];
                SwarmDesk desk = open(true);
                int what = after(desk, Check.message(kind, new byte[n - 1]));
                int whenRight = kind == 6 ? 26 : kind;
                Check.same("kind " + kind + " of " + n, what, right ? whenRight : 23);
                if (!right) {
                    Check.same("its reason", desk.known(0, 4, 9), 3);
                }
            }
        }
        SwarmDesk desk = Check.greeted(Check.content(2048), 32, true);
        Check.same("a bitfield of 8 bytes", after(desk, Check.message(5, new byte[8])), 5);
        desk = Check.greeted(Check.content(32 * 9), 32, true);
        Check.same("a bitfield of 1 byte for 9 pieces", after(desk, Check.message(5, new byte[1])), 23);
        desk = Check.greeted(Check.content(32 * 8), 32, true);
        Check.same("a bitfield of 1 byte for 8 pieces", after(desk, Check.message(5, Check.bytes(255))), 5);
        Check.same("all of them", desk.known(0, 4, 6), 8);
    }

    private static void plain() {
        SwarmDesk desk = open(true);
        Check.same("interested", after(desk, Check.message(2)), 2);
        Check.same("it is", desk.known(0, 4, 5), 1);
        Check.same("not choked then", desk.known(0, 4, 2), 0);
        Check.same("interested again", after(desk, Check.message(2)), 2);
        Check.same("not interested", after(desk, Check.message(3)), 3);
        Check.same("it is not", desk.known(0, 4, 5), 0);
        Check.same("choked then", desk.known(0, 4, 2), 1);
        Check.same("unchoke", after(desk, Check.message(1)), 1);
        Check.same("it is not choked", desk.known(0, 4, 4), 0);
        Check.same("choke", after(desk, Check.message(0)), 0);
        Check.same("it is choked", desk.known(0, 4, 4), 1);
        Check.same("keep alive", after(desk, Check.number(0)), 9);
        Check.sameBytes("what was sent", Check.hear(desk, 0),
            Check.join(Check.message(5, Check.bytes(0xE0)), Check.message(1), Check.message(0)));
    }

    private static void have() {
        SwarmDesk desk = open(false);
        Check.same("have 2", after(desk, Check.message(4, Check.number(2))), 4);
        Check.same("it has that", desk.told(0, 4, 2), 1);
        Check.same("it has no other", desk.told(0, 4, 1), 0);
        Check.same("so many", desk.known(0, 4, 6), 1);
        Check.same("have 2 again", after(desk, Check.message(4, Check.number(2))), 4);
        Check.same("so many still", desk.known(0, 4, 6), 1);
        Check.sameBytes("interested", Check.hear(desk, 0), Check.message(2));
        for (long p : new long[] {3, 64, 0x80000000L, 0xFFFFFFFFL}) {
            desk = open(false);
            Check.same("have " + p, after(desk, Check.message(4, Check.number(p))), 24);
            Check.same("its reason", desk.known(0, 4, 9), 4);
        }
        desk = Check.greeted(Check.content(2048), 32, false);
        Check.same("have 63", after(desk, Check.message(4, Check.number(63))), 4);
        Check.same("it has 63", desk.told(0, 4, 63), 1);
        Check.same("have 64", after(desk, Check.message(4, Check.number(64))), 24);
    }

    private static void bitfield() {
        for (int bits = 0; bits < 256; bits++) {
            SwarmDesk desk = open(false);
            boolean right = (bits & 31) == 0;
            Check.same("bitfield " + bits, after(desk, Check.message(5, Check.bytes(bits))), right ? 5 : 25);
            Check.same("reason", desk.known(0, 4, 9), right ? 0 : 5);
            for (int p = 0; right && p < 3; p++) {
                Check.same("piece of a bitfield", desk.told(0, 4, p), bits >> 7 - p & 1);
            }
        }
    }

    private static void bitfieldFirst() {
        byte[] bits = Check.message(5, Check.bytes(0x40));
        byte[][] ahead = {Check.message(0), Check.message(1), Check.message(2), Check.message(3), Check.message(4, Check.number(0)),
            bits, Check.request(0, 0, 1), Check.message(7, new byte[9]), Check.message(8, new byte[12]), Check.message(200)};
        for (byte[] first : ahead) {
            SwarmDesk desk = open(false);
            Check.say(desk, 0, first, bits);
            desk.act(0, 4);
            Check.same("a bitfield behind kind " + first[4], desk.act(0, 4), 25);
        }
        SwarmDesk desk = open(false);
        Check.say(desk, 0, Check.number(0), Check.number(0), bits);
        Check.same("keep alive", desk.act(0, 4), 9);
        Check.same("keep alive", desk.act(0, 4), 9);
        Check.same("a bitfield behind them", desk.act(0, 4), 5);
        Check.same("it has that", desk.told(0, 4, 1), 1);
        desk.close(0, 4);
        desk.connect(0, 4);
        Check.say(desk, 0, Check.hello(Check.hash(desk)), bits);
        desk.act(0, 4);
        Check.same("a bitfield of a new connection", desk.act(0, 4), 5);
    }

    private static void request() {
        // Pieces of 100, 100 and 50 bytes.
        long[][] bad = {{3, 0, 1}, {0xFFFFFFFFL, 0, 1}, {0x80000000L, 0, 1}, {0, 0, 0}, {0, 0, 65}, {0, 37, 64}, {0, 100, 1},
            {2, 50, 1}, {2, 0, 51}, {0, 0xFFFFFFFFL, 1}, {0, 0xFFFFFFFFL, 0xFFFFFFFFL}, {0, 0x7FFFFFFFL, 64}, {0, 1, 0xFFFFFFFFL}};
        for (long[] r : bad) {
            SwarmDesk desk = Check.greeted(Check.content(250), 100, true);
            after(desk, Check.message(2));
            Check.same("a bad request " + Arrays.toString(r), after(desk, Check.request(r[0], r[1], r[2])), 26);
            Check.same("its reason", desk.known(0, 4, 9), 6);
            Check.same("nothing is sent", desk.count(0, 2), 0);
        }
        SwarmDesk choked = Check.greeted(Check.content(250), 100, true);
        Check.same("a bad one closes while it is choked, too", after(choked, Check.request(3, 0, 1)), 26);
    }

    private static void requestAnswered() {
        byte[] content = Check.content(250);
        SwarmDesk desk = Check.greeted(content, 100, true);
        desk.hear(0);
        Check.same("a request while choked", after(desk, Check.request(0, 0, 64)), 6);
        Check.same("nothing is sent", desk.hear(0), 0);
        Check.same("none is sent", desk.count(0, 2), 0);
        after(desk, Check.message(2));
        desk.hear(0);
        int[][] good = {{0, 0, 64}, {0, 36, 64}, {1, 99, 1}, {2, 0, 50}, {2, 49, 1}, {1, 7, 33}};
        for (int i = 0; i < good.length; i++) {
            int[] r = good[i];
            Check.same("a request", after(desk, Check.request(r[0], r[1], r[2])), 6);
            int begin = 100 * r[0] + r[1];
            Check.sameBytes("the piece", Check.hear(desk, 0), Check.message(7, Check.number(r[0]), Check.number(r[1]),
                Arrays.copyOfRange(content, begin, begin + r[2])));
            Check.same("sent", desk.count(0, 2), i + 1);
        }
        SwarmDesk empty = Check.greeted(content, 100, false);
        after(empty, Check.message(2));
        empty.hear(0);
        Check.same("of one that has it not", after(empty, Check.request(0, 0, 64)), 6);
        Check.same("nothing is sent", empty.hear(0), 0);
        Check.same("none is sent", empty.count(0, 2), 0);
        Check.same("still connected", empty.known(0, 4, 0), 1);
    }

    private static void cancelAndUnknown() {
        SwarmDesk desk = open(true);
        desk.hear(0);
        Check.same("cancel", after(desk, Check.message(8, Check.number(-1), Check.number(-1), Check.number(-1))), 8);
        Check.same("unknown 9", after(desk, Check.message(9)), 11);
        Check.same("unknown 10", after(desk, Check.message(10, new byte[3])), 11);
        Check.same("unknown 255", after(desk, Check.message(255, new byte[99])), 11);
        Check.same("nothing is sent", desk.hear(0), 0);
        Check.same("still connected", desk.known(0, 4, 0), 1);
    }

    private static byte[] block(byte[] content, int pieceLength, int p, int where, int count) {
        int begin = p * pieceLength + where;
        return Check.message(7, Check.number(p), Check.number(where), Arrays.copyOfRange(content, begin, begin + count));
    }

    /** Client 0 with nothing, that asks outside for what it has: pieces of 100, 100 and 50 bytes. */
    private static SwarmDesk asker(byte[] content) {
        SwarmDesk desk = Check.greeted(content, 100, false);
        Check.say(desk, 0, Check.message(5, Check.bytes(0xE0)), Check.message(1));
        desk.pump(10);
        return desk;
    }

    private static void piece() {
        byte[] content = Check.content(250);
        SwarmDesk desk = asker(content);
        Check.sameBytes("what was asked", Check.hear(desk, 0), Check.join(Check.message(2), Check.request(0, 0, 64),
            Check.request(0, 64, 36), Check.request(1, 0, 64), Check.request(1, 64, 36)));
        byte[][] unasked = {block(content, 100, 0, 0, 63), block(content, 100, 0, 64, 35), block(content, 100, 0, 1, 64),
            block(content, 100, 2, 0, 50), Check.message(7, Check.number(-1), Check.number(0), new byte[64]),
            Check.message(7, Check.number(0), Check.number(-64), new byte[64]),
            Check.message(7, Check.number(3), Check.number(0), new byte[64])};
        for (int i = 0; i < unasked.length; i++) {
            Check.same("a piece that was not asked", after(desk, unasked[i]), 7);
            Check.same("unasked", desk.count(0, 4), i + 1);
        }
        Check.same("none is taken", desk.count(0, 1), 0);
        Check.same("nothing is on the disk", desk.disk(0, 0), 0);
        Check.same("no block came", desk.piece(0, 0), 0);
        Check.same("all stay asked", desk.known(0, 4, 7), 4);
        Check.same("a block", after(desk, block(content, 100, 0, 64, 36)), 7);
        Check.same("taken", desk.count(0, 1), 1);
        Check.same("a block came", desk.piece(0, 0), 1);
        Check.same("it is on the disk", desk.disk(0, 99), content[99] & 255);
        Check.same("no other is", desk.disk(0, 0), 0);
        Check.sameBytes("another is asked", Check.hear(desk, 0), Check.request(2, 0, 50));
        Check.same("that block again", after(desk, block(content, 100, 0, 64, 36)), 7);
        Check.same("is unasked", desk.count(0, 4), unasked.length + 1);
        Check.same("the first block", after(desk, block(content, 100, 0, 0, 64)), 7);
        Check.same("it has the piece", desk.piece(0, 0), 2);
        Check.same("pieces", desk.count(0, 0), 1);
        Check.same("three are asked", desk.known(0, 4, 7), 3);
        Check.sameBytes("have is sent", Check.hear(desk, 0), Check.message(4, Check.number(0)));
        after(desk, block(content, 100, 2, 0, 50));
        after(desk, block(content, 100, 1, 64, 36));
        after(desk, block(content, 100, 1, 0, 64));
        Check.same("it has all", desk.count(0, 0), 3);
        Check.same("taken are", desk.count(0, 1), 5);
        Check.sameBytes("the last haves, and no interest", Check.hear(desk, 0), Check.join(Check.message(4, Check.number(2)),
            Check.message(4, Check.number(1)), Check.message(3)));
        for (int i = 0; i < 250; i += 10) {
            Check.same("the disk", desk.disk(0, i), content[i] & 255);
        }
    }

    private static void pieceWrong() {
        byte[] content = Check.content(250);
        SwarmDesk desk = asker(content);
        byte[] wrong = content.clone();
        wrong[70] ^= 1;
        Check.same("a wrong block", after(desk, block(wrong, 100, 0, 64, 36)), 7);
        Check.same("the other one", after(desk, block(wrong, 100, 0, 0, 64)), 27);
        Check.same("failed", desk.count(0, 3), 1);
        Check.same("taken", desk.count(0, 1), 2);
        Check.same("no block came", desk.piece(0, 0), 0);
        Check.same("closed", desk.known(0, 4, 0), 0);
        Check.same("its reason", desk.known(0, 4, 9), 7);
        Check.same("the bytes are on the disk", desk.disk(0, 70), wrong[70] & 255);
        Check.same("it has none", desk.count(0, 0), 0);
        desk.connect(0, 4);
        Check.say(desk, 0, Check.hello(Check.hash(desk)), Check.message(5, Check.bytes(0x80)), Check.message(1));
        desk.pump(10);
        Check.same("both are asked again", desk.known(0, 4, 7), 2);
        after(desk, block(content, 100, 0, 0, 64));
        Check.same("now they are right", after(desk, block(content, 100, 0, 64, 36)), 7);
        Check.same("it has the piece", desk.piece(0, 0), 2);
    }

    private static void haveToAll() {
        SwarmDesk desk = Check.made(Check.content(60), 64);
        desk.client(0, false);
        desk.client(1, true);
        desk.client(2, false);
        desk.client(3, false);
        for (int b = 1; b < 5; b++) {
            desk.connect(0, b);
        }
        desk.hear(0);
        Check.say(desk, 0, Check.hello(Check.hash(desk)));
        desk.act(0, 4);
        desk.act(0, 2);
        // 3's hello never comes to 0, so it is told of nothing.
        for (int n = 0; n < 6; n++) {
            desk.act(1, 0);
            desk.act(0, 1);
        }
        Check.same("it has the piece", desk.piece(0, 0), 2);
        Check.sameBytes("outside is told", Check.hear(desk, 0), Check.message(4, Check.number(0)));
        Check.same("2 is told", desk.known(2, 0, 8), 68 + 9);
        Check.same("3 is not", desk.known(3, 0, 8), 68);
        desk.act(1, 0);
        Check.same("1 is told", desk.known(1, 0, 6), 1);
        desk.act(0, 3);
        Check.same("3 gets a bitfield", desk.known(3, 0, 8), 68 + 6);
    }

    private static void interest() {
        SwarmDesk desk = open(true);
        desk.hear(0);
        after(desk, Check.message(5, Check.bytes(0xE0)));
        Check.same("no interest in what it has", desk.known(0, 4, 3), 0);
        Check.same("nothing is sent", desk.hear(0), 0);
        desk = open(false);
        after(desk, Check.message(5, Check.bytes(0)));
        Check.same("no interest in nothing", desk.known(0, 4, 3), 0);
        after(desk, Check.message(4, Check.number(0)));
        Check.same("interest", desk.known(0, 4, 3), 1);
        after(desk, Check.message(4, Check.number(1)));
        Check.sameBytes("sent once", Check.hear(desk, 0), Check.message(2));
    }

    private static void choking() {
        SwarmDesk desk = Check.made(Check.content(150), 64);
        desk.client(0, true);
        byte[] hello = Check.hello(Check.hash(desk));
        for (int k = 1; k < 4; k++) {
            desk.client(k, false);
            desk.connect(0, k);
        }
        desk.connect(0, 4);
        for (int k = 1; k < 4; k++) {
            desk.act(k, 0);
            desk.act(0, k);
            desk.act(k, 0);
        }
        Check.say(desk, 0, hello, Check.message(2));
        desk.act(0, 4);
        Check.same("outside is the first", desk.act(0, 4), 2);
        Check.same("not choked", desk.known(0, 4, 2), 0);
        desk.act(0, 3);
        desk.act(0, 2);
        Check.same("three are not choked", desk.known(0, 3, 2) + desk.known(0, 2, 2), 0);
        Check.same("the fourth", desk.act(0, 1), 2);
        Check.same("is choked", desk.known(0, 1, 2), 1);
        Check.same("though it is interested", desk.known(0, 1, 5), 1);
        Check.same("outside loses interest", after(desk, Check.message(3)), 3);
        Check.same("it is choked", desk.known(0, 4, 2), 1);
        // 1 was gone over ahead of 4, so its turn comes with the next act.
        Check.same("1 still is choked", desk.known(0, 1, 2), 1);
        Check.same("keep alive", after(desk, Check.number(0)), 9);
        Check.same("now 1 is not", desk.known(0, 1, 2), 0);
        after(desk, Check.message(2));
        Check.same("outside has to wait", desk.known(0, 4, 2), 1);
        desk.close(0, 2);
        after(desk, Check.number(0));
        Check.same("until one is closed", desk.known(0, 4, 2), 0);
    }

    private static void asking() {
        SwarmDesk desk = Check.greeted(Check.content(700), 300, false);
        Check.say(desk, 0, Check.message(1), Check.message(4, Check.number(2)), Check.message(4, Check.number(1)));
        desk.act(0, 4);
        Check.same("nothing to ask", desk.known(0, 4, 7), 0);
        desk.act(0, 4);
        Check.same("the last piece has two blocks", desk.known(0, 4, 7), 2);
        desk.act(0, 4);
        Check.same("four at most", desk.known(0, 4, 7), 4);
        Check.sameBytes("what was asked", Check.hear(desk, 0), Check.join(Check.message(2), Check.request(2, 0, 64),
            Check.request(2, 64, 36), Check.request(1, 0, 64), Check.request(1, 64, 64)));
        desk = Check.greeted(Check.content(700), 300, false);
        Check.say(desk, 0, Check.message(5, Check.bytes(0xE0)));
        desk.act(0, 4);
        Check.same("a choked one asks nothing", desk.known(0, 4, 7), 0);
    }

    private static void rarest() {
        // Pieces of 64: outside has 0, 1, 2; client 1 has 0 and 1, client 2 has 0.
        byte[] content = Check.content(64 * 3);
        SwarmDesk desk = Check.made(content, 64);
        byte[] hello = Check.hello(Check.hash(desk));
        for (int k = 0; k < 3; k++) {
            desk.client(k, false);
        }
        give(desk, 1, hello, content, 0, 1);
        give(desk, 2, hello, content, 0);
        desk.connect(0, 1);
        desk.connect(0, 2);
        desk.connect(0, 4);
        desk.hear(0);
        desk.act(0, 1);
        desk.act(0, 2);
        desk.act(1, 0);
        desk.act(2, 0);
        Check.same("bitfield of 1", desk.act(0, 1), 5);
        Check.same("bitfield of 2", desk.act(0, 2), 5);
        Check.say(desk, 0, hello, Check.message(5, Check.bytes(0xE0)), Check.message(1));
        desk.act(0, 4);
        desk.act(0, 4);
        desk.act(0, 4);
        Check.sameBytes("the rarest is asked first", Check.hear(desk, 0), Check.join(Check.message(2), Check.request(2, 0, 64),
            Check.request(1, 0, 64), Check.request(0, 0, 64)));
        desk.act(1, 0);
        Check.same("unchoked by 1", desk.act(0, 1), 1);
        Check.same("but all is asked of outside", desk.known(0, 1, 7), 0);
        desk.close(0, 4);
        Check.same("nothing is done by a close", desk.known(0, 1, 7), 0);
        desk.act(2, 0);
        Check.same("unchoked by 2", desk.act(0, 2), 1);
        Check.same("1 is asked for what it has", desk.known(0, 1, 7), 2);
        Check.same("and nothing is left for 2", desk.known(0, 2, 7), 0);
    }

    /** Client k takes these pieces of 64 bytes from outside, and that connection is closed. */
    private static void give(SwarmDesk desk, int k, byte[] hello, byte[] content, int... pieces) {
        desk.connect(k, 4);
        List<byte[]> all = new ArrayList<>(List.of(hello, Check.message(1)));
        for (int p : pieces) {
            all.add(Check.message(4, Check.number(p)));
        }
        for (int p : pieces) {
            all.add(block(content, 64, p, 0, 64));
        }
        Check.say(desk, k, all.toArray(new byte[0][]));
        desk.pump(100);
        Check.same("given", desk.count(k, 0), pieces.length);
        desk.close(k, 4);
    }

    private static void chokeFrees() {
        byte[] content = Check.content(250);
        SwarmDesk desk = asker(content);
        desk.hear(0);
        Check.same("choke", after(desk, Check.message(0)), 0);
        Check.same("nothing is asked any more", desk.known(0, 4, 7), 0);
        Check.same("a block then", after(desk, block(content, 100, 0, 0, 64)), 7);
        Check.same("is unasked", desk.count(0, 4), 1);
        Check.same("nothing is sent", desk.hear(0), 0);
        Check.same("unchoke", after(desk, Check.message(1)), 1);
        Check.sameBytes("the same are asked", Check.hear(desk, 0), Check.join(Check.request(0, 0, 64), Check.request(0, 64, 36),
            Check.request(1, 0, 64), Check.request(1, 64, 36)));
    }

    /** A desk whose client 0 has sent so many bytes to outside that were not heard. */
    private static SwarmDesk filled(int bytes) {
        SwarmDesk desk = open(true);
        after(desk, Check.message(2));
        desk.hear(0);
        int left = bytes;
        while (left > 0) {
            int size = left <= 77 ? left : left < 77 + 14 ? 40 : 77;
            Check.same("a request", after(desk, Check.request(0, 0, size - 13)), 6);
            left -= size;
        }
        return desk;
    }

    private static void fullWire() {
        SwarmDesk desk = filled(4000);
        Check.same("4000 bytes are no reason", desk.known(0, 4, 0), 1);
        Check.same("nothing is sent by this", after(desk, Check.message(2)), 2);
        Check.same("one more piece", after(desk, Check.request(0, 0, 1)), 6);
        Check.same("closes", desk.known(0, 4, 0), 0);
        Check.same("with 8", desk.known(0, 4, 9), 8);
        Check.same("nothing of it is left", desk.hear(0), -1);
        desk.connect(0, 4);
        Check.same("a new wire", desk.hear(0), 68);
        desk = filled(3996);
        Check.same("a choke does not fit", after(desk, Check.message(3)), 3);
        Check.same("closed with 8", desk.known(0, 4, 9), 8);
        desk = filled(3995);
        Check.same("a choke fits", after(desk, Check.message(3)), 3);
        Check.same("all is heard", desk.hear(0), 4000);
    }

    private static void fullWireByHave() {
        SwarmDesk desk = Check.greeted(Check.content(150), 64, false);
        desk.hear(0);
        // Interested and not interested, again and again: unchoke and choke are five bytes each.
        byte[] flip = Check.join(Check.message(2), Check.message(3));
        byte[][] flips = new byte[399][];
        Arrays.fill(flips, flip);
        Check.same("say so", Check.say(desk, 0, flips), 3990);
        Check.same("all of it is taken", desk.pump(2000), 798);
        desk.client(1, true);
        desk.connect(0, 1);
        while (desk.count(0, 0) < 1 && desk.pump(1) == 1) {
            Check.same("the wire is not full yet", desk.known(0, 4, 0), 1);
        }
        Check.same("one have fits", desk.known(0, 4, 0), 1);
        while (desk.count(0, 0) < 2 && desk.pump(1) == 1) {
            Check.same("1 is connected", desk.known(0, 1, 0), 1);
        }
        Check.same("a second one does not", desk.known(0, 4, 9), 8);
        Check.same("closed", desk.known(0, 4, 0), 0);
        desk.pump(2000);
        Check.same("all is there", desk.count(0, 0), 3);
        Check.same("1 knows all of it", desk.known(1, 0, 6), 3);
    }

    private static void pump() {
        SwarmDesk desk = Check.made(Check.content(1000), 100);
        for (int n : new int[] {0, -1, 2001, Integer.MAX_VALUE, Integer.MIN_VALUE}) {
            Check.same("pump " + n, desk.pump(n), -1);
        }
        Check.same("pump of nobody", desk.pump(2000), 0);
        desk.client(0, true);
        desk.client(1, false);
        desk.client(2, false);
        desk.connect(0, 1);
        desk.connect(1, 2);
        Check.same("one act", desk.pump(1), 1);
        Check.same("it was 0's", desk.known(0, 1, 1), 1);
        Check.same("three acts", desk.pump(3), 3);
        // A new call begins at 0 again: 1 heard 0 and 2, and 2 heard 1; then 0 has nothing whole yet.
        Check.same("1 heard 0", desk.known(1, 0, 1), 1);
        Check.same("1 heard 2", desk.known(1, 2, 1), 1);
        Check.same("2 heard 1", desk.known(2, 1, 1), 1);
        int acts = desk.pump(2000);
        Check.yes("a whole talk", acts > 60 && acts < 2000);
        Check.same("it is over", desk.pump(2000), 0);
        Check.same("1 has all", desk.count(1, 0), 10);
        Check.same("2 has all", desk.count(2, 0), 10);
        for (int i = 0; i < 1000; i += 9) {
            Check.same("the disk of 2", desk.disk(2, i), Check.content(1000)[i] & 255);
        }
    }
}
