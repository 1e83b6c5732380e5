import java.util.Arrays;

/** The boundary cases of promises 20 and 21, and of what came and is sent in part 3 of the terms. */
public final class ActEdgesTest {
    private static final byte[] CONTENT = Check.content(250);

    public static void main(String[] args) {
        actWithoutConnection();
        actOfOutside();
        actOnNothingWhole();
        actOnNothingWholeDoesNothing();
        actOnTheFirstAlone();
        helloOf68();
        helloOfEachByte();
        helloThatCountsForNothing();
        helloOfAnotherHash();
        helloToOneWithNothing();
        helloToOneWithAPiece();
        nAbove100();
        nAbove100AtOnce();
        nOf100();
        nTold();
        nOfBitfield();
        nOfPiece();
        nAheadOfWhatItSays();
        unknownOnes();
        keepAlive();
        chokeAgain();
        chokeOfThatOneAlone();
        interestedAgain();
        haveOfLastPiece();
        haveOfNoSuchPiece();
        haveAgain();
        bitfieldOfSpareBits();
        bitfieldWithoutSpareBits();
        bitfieldOfNothing();
        bitfieldOrder();
        bitfieldNotFirst();
        bitfieldBehindKeepAlive();
        requestOfNoSuchPiece();
        requestOfNoBytes();
        requestOf64();
        requestOfMoreThan64();
        requestUpToTheEnd();
        requestBeyondTheEnd();
        requestThatWrapsAround();
        requestWhileChoked();
        requestOfWhatItHasNot();
        cancelOfAnything();
        pump0();
        pump1();
        pump2000();
        pumpOfAnotherN();
        pumpInTheMiddleOfARound();
        pumpUntilThereIsNothing();
        Check.finish();
    }

    /** Says that from outside to client 0 and lets it act once. */
    private static int after(SwarmDesk desk, byte[]... parts) {
        Check.say(desk, 0, parts);
        return desk.act(0, 4);
    }

    /** A look that the act closed the CONNECTION with outside, with that reason. */
    private static void closes(String what, int reason, SwarmDesk desk, byte[]... parts) {
        Check.same(what, after(desk, parts), 20 + reason);
        Check.same(what + ": CONNECTED", desk.known(0, 4, 0), 0);
        Check.same(what + ": the reason", desk.known(0, 4, 9), reason);
        Check.same(what + ": nothing to hear", desk.hear(0), -1);
    }

    private static void keeps(String what, int kind, SwarmDesk desk, byte[]... parts) {
        Check.same(what, after(desk, parts), kind);
        Check.same(what + ": CONNECTED", desk.known(0, 4, 0), 1);
        Check.same(what + ": all of it was taken", desk.known(0, 4, 8), 0);
    }

    /** Client 0, greeted by outside: PIECES of 100, 100 and 50 bytes. */
    private static SwarmDesk open(boolean full) {
        SwarmDesk desk = Check.greeted(CONTENT, 100, full);
        desk.hear(0);
        return desk;
    }

    /** The same with so many PIECES, the last one of 1 byte. */
    private static SwarmDesk openOf(int pieces, boolean full) {
        SwarmDesk desk = Check.greeted(Check.content(32 * pieces - 31), 32, full);
        desk.hear(0);
        return desk;
    }

    // Promise 20: "NONE: there is no such CONNECTION, a is OUTSIDE, or nothing whole is there (nothing is done then)."

    private static void actWithoutConnection() {
        SwarmDesk desk = Check.made(CONTENT, 100);
        desk.client(0, true);
        desk.client(1, true);
        for (int b : new int[] {Integer.MIN_VALUE, -1, 0, 1, 2, 4, 5, Integer.MAX_VALUE}) {
            Check.same("act of 0 on " + b, desk.act(0, b), -1);
            Check.same("act of " + b + " on 0", desk.act(b, 0), -1);
            Check.same("act of " + b + " on itself", desk.act(b, b), -1);
        }
        desk.connect(0, 1);
        desk.close(0, 1);
        Check.same("act of 0 on 1, closed", desk.act(0, 1), -1);
    }

    private static void actOfOutside() {
        SwarmDesk desk = Check.made(CONTENT, 100);
        desk.client(0, true);
        desk.connect(0, 4);
        Check.same("act of outside on a whole HELLO", desk.act(4, 0), -1);
        Check.same("it is there still", desk.hear(0), 68);
    }

    private static void actOnNothingWhole() {
        SwarmDesk desk = open(true);
        byte[] message = Check.message(4, Check.number(1));
        for (int size = 0; size < message.length; size++) {
            Check.same("act on " + size + " bytes of nine", desk.act(0, 4), -1);
            Check.same("the WIRE", desk.known(0, 4, 8), size);
            Check.say(desk, 0, Arrays.copyOfRange(message, size, size + 1));
        }
        Check.same("act on all nine", desk.act(0, 4), 4);
    }

    /** Client 0 wants to UNCHOKE a fourth one, but as long as it ACTS on nothing it does not. */
    private static void actOnNothingWholeDoesNothing() {
        SwarmDesk desk = SwarmTalk.allInterested(0);
        Check.same("the fourth is CHOKED", desk.known(0, 4, 2), 1);
        desk.close(0, 1);
        Check.same("act on nothing", desk.act(0, 4), -1);
        Check.say(desk, 0, new byte[3]);
        Check.same("act on three bytes", desk.act(0, 4), -1);
        Check.same("nothing is done", desk.known(0, 4, 2), 1);
        Check.say(desk, 0, new byte[1]);
        Check.same("act on four", desk.act(0, 4), 9);
        Check.same("it is done now", desk.known(0, 4, 2), 0);
    }

    // "a CLIENT takes the first of what came over a WIRE, if that is whole (the HELLO 68 bytes; then MESSAGES)"

    private static void actOnTheFirstAlone() {
        SwarmDesk desk = open(false);
        Check.say(desk, 0, Check.number(0), Check.message(2), Check.message(9));
        int[] due = {9, 2, 11, -1};
        int[] left = {10, 5, 0, 0};
        for (int i = 0; i < due.length; i++) {
            Check.same("act " + i, desk.act(0, 4), due[i]);
            Check.same("what is left behind act " + i, desk.known(0, 4, 8), left[i]);
        }
    }

    private static SwarmDesk connected(boolean full) {
        SwarmDesk desk = Check.made(CONTENT, 100);
        desk.client(0, full);
        desk.connect(0, 4);
        desk.hear(0);
        return desk;
    }

    private static void helloOf68() {
        SwarmDesk desk = connected(true);
        byte[] hello = Check.hello(Check.hash(desk));
        Check.same("a HELLO of 67", after(desk, Arrays.copyOf(hello, 67)), -1);
        Check.same("it did not come", desk.known(0, 4, 1), 0);
        Check.same("the last byte of it", after(desk, Arrays.copyOfRange(hello, 67, 68)), 10);
        Check.same("it came", desk.known(0, 4, 1), 1);
        // A broken one waits for its last byte, too.
        SwarmDesk broken = connected(true);
        Check.same("a broken one of 67", after(broken, new byte[67]), -1);
        closes("the last byte of it", 1, broken, new byte[1]);
    }

    // "it is not of the first 20 bytes told, or has another HASH: CLOSED, 1"

    private static void helloOfEachByte() {
        for (int i = 0; i < 68; i++) {
            boolean counts = i < 20 || i >= 28 && i < 48;
            for (int bit = 1; bit < 256; bit = bit == 1 ? 128 : 256) {
                SwarmDesk desk = connected(true);
                byte[] hello = Check.hello(Check.hash(desk));
                hello[i] ^= (byte) bit;
                if (counts) {
                    closes("a HELLO with another byte " + i, 1, desk, hello);
                } else {
                    keeps("a HELLO with another byte " + i, 10, desk, hello);
                }
            }
        }
    }

    // "(The eight bytes and the NAME count for nothing.)"

    private static void helloThatCountsForNothing() {
        for (int value : new int[] {0, 1, 127, 128, 255}) {
            SwarmDesk desk = connected(true);
            byte[] hello = Check.hello(Check.hash(desk));
            Arrays.fill(hello, 20, 28, (byte) value);
            Arrays.fill(hello, 48, 68, (byte) value);
            keeps("a HELLO with others of " + value, 10, desk, hello);
        }
        SwarmDesk desk = Check.made(CONTENT, 100);
        desk.client(0, true);
        desk.connect(0, 4);
        desk.hear(0);
        desk.connect(0, 4);
        byte[] own = Check.join(Check.bytes(19), Check.text("BitTorrent protocol"), new byte[8], Check.hash(desk),
            Check.text("-JD0001-000000000000"));
        keeps("its own HELLO", 10, desk, own);
    }

    private static void helloOfAnotherHash() {
        SwarmDesk desk = Check.made(Check.content(40), 32);
        byte[] old = Check.hash(desk);
        Check.tape(desk, CONTENT);
        desk.make(100);
        desk.client(0, true);
        desk.connect(0, 4);
        closes("the HASH of older METAINFO", 1, desk, Check.hello(old));
        desk.connect(0, 4);
        keeps("that of METAINFO", 10, desk, Check.hello(Check.hash(desk)));
    }

    // "Else it came; if the CLIENT HAS a PIECE it sends its BITFIELD."

    private static void helloToOneWithNothing() {
        SwarmDesk desk = connected(false);
        keeps("a HELLO", 10, desk, Check.hello(Check.hash(desk)));
        Check.same("no BITFIELD", desk.hear(0), 0);
        // A BLOCK that CAME is no PIECE.
        Check.say(desk, 0, Check.message(1), Check.message(4, Check.number(0)), Check.block(CONTENT, 100, 0, 0, 64));
        desk.pump(3);
        Check.same("a BLOCK CAME", desk.piece(0, 0), 1);
        desk.close(0, 4);
        desk.connect(0, 4);
        desk.hear(0);
        keeps("a HELLO again", 10, desk, Check.hello(Check.hash(desk)));
        Check.same("no BITFIELD still", desk.hear(0), 0);
    }

    private static void helloToOneWithAPiece() {
        SwarmDesk desk = open(false);
        Check.say(desk, 0, Check.message(1), Check.message(4, Check.number(2)), Check.block(CONTENT, 100, 2, 0, 50));
        desk.pump(3);
        desk.close(0, 4);
        desk.connect(0, 4);
        desk.hear(0);
        keeps("a HELLO", 10, desk, Check.hello(Check.hash(desk)));
        Check.sameBytes("its BITFIELD", Check.hear(desk, 0), Check.message(5, Check.bytes(0x20)));
        int[][] due = {{1, 0x80}, {7, 0xFE}, {8, 0xFF}, {9, 0xFF, 0x80}, {16, 0xFF, 0xFF}, {17, 0xFF, 0xFF, 0x80},
            {63, 255, 255, 255, 255, 255, 255, 255, 254}, {64, 255, 255, 255, 255, 255, 255, 255, 255}};
        for (int[] row : due) {
            SwarmDesk full = Check.greeted(Check.content(32 * row[0]), 32, true);
            Check.sameBytes("BITFIELD of " + row[0], Check.hear(full, 0),
                Check.message(5, Check.bytes(Arrays.copyOfRange(row, 1, row.length))));
        }
    }

    // "A MESSAGE of N above 100: CLOSED, 2 (as soon as the four bytes are there)."

    private static void nAbove100() {
        long[] sizes = {101, 127, 128, 255, 256, 0x100, 0x101, 0x10000, 0x10001, 0x1000000, 0x1000001, 0x7FFFFFFFL, 0x80000000L,
            0x80000001L, 0xFFFFFFFEL, 0xFFFFFFFFL};
        for (long n : sizes) {
            closes("N " + n, 2, open(true), Check.number(n));
            for (int kind = 0; kind < 10; kind++) {
                closes("N " + n + " of " + kind, 2, open(true), Check.number(n), Check.bytes(kind), new byte[200]);
            }
        }
    }

    private static void nAbove100AtOnce() {
        SwarmDesk desk = open(true);
        Check.same("three bytes of N", after(desk, Check.bytes(0, 0, 1)), -1);
        closes("the fourth", 2, desk, Check.bytes(0));
    }

    private static void nOf100() {
        SwarmDesk desk = open(true);
        Check.same("N 100 without a byte", after(desk, Check.number(100)), -1);
        Check.same("99 of them", after(desk, Check.bytes(9), new byte[98]), -1);
        keeps("all of them", 11, desk, new byte[1]);
        closes("N 100 of a kind that has another", 3, desk, Check.message(0, new byte[99]));
    }

    // "One of 0 to 8 with another N than is told (of 7: below 10 or above 73): CLOSED, 3."

    private static void nTold() {
        int[] due = {1, 1, 1, 1, 5, 2, 13, 0, 13};
        for (int kind : new int[] {0, 1, 2, 3, 4, 5, 6, 8}) {
            byte[] body = new byte[due[kind] - 1];
            if (kind == 6) {
                body[11] = 1;
            }
            keeps("N of " + kind, kind, open(true), Check.message(kind, body));
            closes("one more of " + kind, 3, open(true), Check.message(kind, body, new byte[1]));
            if (body.length > 0) {
                closes("one less of " + kind, 3, open(true), Check.message(kind, Arrays.copyOf(body, body.length - 1)));
                closes("none of " + kind, 3, open(true), Check.message(kind));
            }
        }
    }

    // "5 BITFIELD (N 1 and a byte for each eight PIECES, begun or not)"

    private static void nOfBitfield() {
        int[][] cases = {{1, 1}, {7, 1}, {8, 1}, {9, 2}, {16, 2}, {17, 3}, {56, 7}, {57, 8}, {63, 8}, {64, 8}};
        for (int[] c : cases) {
            keeps("BITFIELD of " + c[0], 5, openOf(c[0], true), Check.message(5, new byte[c[1]]));
            closes("a byte more for " + c[0], 3, openOf(c[0], true), Check.message(5, new byte[c[1] + 1]));
            closes("a byte less for " + c[0], 3, openOf(c[0], true), Check.message(5, new byte[c[1] - 1]));
        }
    }

    private static void nOfPiece() {
        closes("a PIECE of no kind", 3, open(true), Check.message(7));
        closes("a PIECE of 9", 3, open(true), Check.message(7, new byte[8]));
        keeps("a PIECE of 10", 7, open(true), Check.message(7, new byte[9]));
        keeps("a PIECE of 73", 7, open(true), Check.message(7, new byte[72]));
        closes("a PIECE of 74", 3, open(true), Check.message(7, new byte[73]));
        closes("a PIECE of 100", 3, open(true), Check.message(7, new byte[99]));
        SwarmDesk desk = open(true);
        closes("a PIECE of 74", 3, desk, Check.message(7, new byte[73]));
        Check.same("it is not UNASKED", desk.count(0, 4), 0);
    }

    /** A wrong N is the first to be seen, whatever else is wrong. */
    private static void nAheadOfWhatItSays() {
        SwarmDesk desk = open(true);
        keeps("something ahead", 2, desk, Check.message(2));
        closes("a late BITFIELD of another N", 3, desk, Check.message(5, new byte[2]));
        closes("a HAVE of no such PIECE and another N", 3, open(true), Check.message(4, Check.number(-1), new byte[1]));
        closes("a bad REQUEST of another N", 3, open(true), Check.message(6, Check.number(-1), new byte[9]));
        closes("a BITFIELD with a bit too many and another N", 3, open(true), Check.message(5, Check.bytes(255, 255)));
    }

    // "UNKNOWN ones and KEEP ALIVE: nothing."

    private static void unknownOnes() {
        for (int kind : new int[] {9, 10, 20, 127, 128, 200, 254, 255}) {
            SwarmDesk desk = open(true);
            keeps("UNKNOWN " + kind, 11, desk, Check.message(kind));
            keeps("UNKNOWN " + kind + " of 100", 11, desk, Check.message(kind, new byte[99]));
            Check.same("nothing is sent", desk.hear(0), 0);
        }
    }

    private static void keepAlive() {
        SwarmDesk desk = open(true);
        keeps("KEEP ALIVE", 9, desk, Check.number(0));
        keeps("KEEP ALIVE again", 9, desk, Check.number(0));
        Check.same("nothing is sent", desk.hear(0), 0);
    }

    // "CHOKE: it is CHOKED; nothing is ASKED of that one any more."

    private static void chokeAgain() {
        SwarmDesk desk = open(false);
        keeps("CHOKE where it is CHOKED", 0, desk, Check.message(0));
        Check.same("it is CHOKED", desk.known(0, 4, 4), 1);
        keeps("UNCHOKE", 1, desk, Check.message(1));
        keeps("UNCHOKE again", 1, desk, Check.message(1));
        Check.same("it is not CHOKED", desk.known(0, 4, 4), 0);
        keeps("HAVE", 4, desk, Check.message(4, Check.number(0)));
        Check.same("two are ASKED", desk.known(0, 4, 7), 2);
        keeps("UNCHOKE once more", 1, desk, Check.message(1));
        Check.same("two are ASKED still", desk.known(0, 4, 7), 2);
        keeps("CHOKE", 0, desk, Check.message(0));
        Check.same("none is ASKED", desk.known(0, 4, 7), 0);
        Check.same("it is INTERESTED still", desk.known(0, 4, 3), 1);
    }

    private static void chokeOfThatOneAlone() {
        SwarmDesk desk = Check.made(CONTENT, 100);
        desk.client(0, false);
        desk.client(1, true);
        desk.connect(0, 1);
        desk.connect(0, 4);
        desk.hear(0);
        // 0's HELLO and INTERESTED came to 1, its HELLO, BITFIELD and UNCHOKE to 0.
        desk.act(0, 1);
        desk.act(1, 0);
        desk.act(0, 1);
        desk.act(1, 0);
        desk.act(0, 1);
        Check.same("four are ASKED of 1", desk.known(0, 1, 7), 4);
        Check.say(desk, 0, Check.hello(Check.hash(desk)), Check.message(4, Check.number(2)), Check.message(1), Check.message(0));
        desk.act(0, 4);
        desk.act(0, 4);
        desk.act(0, 4);
        Check.same("one is ASKED of outside", desk.known(0, 4, 7), 1);
        Check.same("CHOKE", desk.act(0, 4), 0);
        Check.same("none is ASKED of outside", desk.known(0, 4, 7), 0);
        Check.same("four are ASKED of 1 still", desk.known(0, 1, 7), 4);
    }

    // "INTERESTED, NOT INTERESTED: the other one is, is not."

    private static void interestedAgain() {
        SwarmDesk desk = open(true);
        keeps("NOT INTERESTED where it is not", 3, desk, Check.message(3));
        Check.same("nothing is sent", desk.hear(0), 0);
        keeps("INTERESTED", 2, desk, Check.message(2));
        Check.sameBytes("UNCHOKE", Check.hear(desk, 0), Check.message(1));
        keeps("INTERESTED again", 2, desk, Check.message(2));
        Check.same("nothing more is sent", desk.hear(0), 0);
        keeps("NOT INTERESTED", 3, desk, Check.message(3));
        Check.sameBytes("CHOKE", Check.hear(desk, 0), Check.message(0));
    }

    // "HAVE: no such PIECE: CLOSED, 4; else the other one has it."

    private static void haveOfLastPiece() {
        for (int pieces : new int[] {1, 2, 8, 9, 32, 33, 63, 64}) {
            SwarmDesk desk = openOf(pieces, false);
            keeps("HAVE of the last of " + pieces, 4, desk, Check.message(4, Check.number(pieces - 1)));
            Check.same("it is told", desk.told(0, 4, pieces - 1), 1);
            Check.same("that one alone", desk.known(0, 4, 6), 1);
            closes("HAVE behind the last of " + pieces, 4, desk, Check.message(4, Check.number(pieces)));
        }
    }

    private static void haveOfNoSuchPiece() {
        for (long p : new long[] {3, 63, 64, 65, 127, 128, 255, 256, 0x10000, 0x1000000, 0x1000001, 0x7FFFFFFFL, 0x80000000L,
            0xFF000000L, 0xFFFFFFFFL}) {
            closes("HAVE of " + p, 4, open(false), Check.message(4, Check.number(p)));
        }
    }

    private static void haveAgain() {
        SwarmDesk desk = open(false);
        keeps("HAVE 0", 4, desk, Check.message(4, Check.number(0)));
        keeps("HAVE 0 again", 4, desk, Check.message(4, Check.number(0)));
        Check.same("one PIECE", desk.known(0, 4, 6), 1);
    }

    // "BITFIELD: a bit that is no PIECE's is 1 .. CLOSED, 5; else the other one has just these."

    private static void bitfieldOfSpareBits() {
        for (int pieces : new int[] {1, 2, 3, 4, 5, 6, 7, 9, 15, 57, 63}) {
            int bytes = (pieces + 7) / 8;
            for (int spare = pieces; spare < 8 * bytes; spare++) {
                byte[] bits = new byte[bytes];
                bits[spare / 8] |= (byte) (128 >> spare % 8);
                closes("bit " + spare + " of " + pieces, 5, openOf(pieces, false), Check.message(5, bits));
            }
        }
    }

    private static void bitfieldWithoutSpareBits() {
        for (int pieces : new int[] {8, 16, 64}) {
            byte[] bits = new byte[pieces / 8];
            Arrays.fill(bits, (byte) 255);
            SwarmDesk desk = openOf(pieces, false);
            keeps("all bits of " + pieces, 5, desk, Check.message(5, bits));
            Check.same("all PIECES", desk.known(0, 4, 6), pieces);
        }
    }

    private static void bitfieldOfNothing() {
        SwarmDesk desk = openOf(9, false);
        keeps("no bits", 5, desk, Check.message(5, new byte[2]));
        Check.same("no PIECES", desk.known(0, 4, 6), 0);
        Check.same("no interest", desk.known(0, 4, 3), 0);
    }

    // "a bit for each PIECE, from the highest of the first byte on"

    private static void bitfieldOrder() {
        for (int p : new int[] {0, 1, 7, 8, 15, 16, 31, 32, 33, 62, 63}) {
            byte[] bits = new byte[8];
            bits[p / 8] = (byte) (128 >> p % 8);
            SwarmDesk desk = openOf(64, false);
            keeps("the bit of " + p, 5, desk, Check.message(5, bits));
            for (int q = 0; q < 64; q++) {
                Check.same("PIECE " + q + " by the bit of " + p, desk.told(0, 4, q), p == q ? 1 : 0);
            }
        }
    }

    // "or something but the HELLO and KEEP ALIVE came ahead of it: CLOSED, 5"

    private static void bitfieldNotFirst() {
        byte[] bits = Check.message(5, Check.bytes(0x40));
        byte[][] ahead = {Check.message(0), Check.message(1), Check.message(2), Check.message(3), Check.message(4, Check.number(0)),
            bits, Check.request(0, 0, 1), Check.message(7, new byte[9]), Check.message(8, new byte[12]), Check.message(9),
            Check.message(255, new byte[99])};
        for (byte[] first : ahead) {
            SwarmDesk desk = open(false);
            keeps("something ahead", Math.min(11, first[4] < 0 || first[4] == 9 ? 11 : first[4]), desk, first);
            closes("BITFIELD behind " + first[4], 5, desk, bits);
        }
    }

    private static void bitfieldBehindKeepAlive() {
        SwarmDesk desk = open(false);
        for (int n = 0; n < 5; n++) {
            keeps("KEEP ALIVE", 9, desk, Check.number(0));
        }
        keeps("BITFIELD behind them", 5, desk, Check.message(5, Check.bytes(0x40)));
        Check.same("it has 1", desk.told(0, 4, 1), 1);
        keeps("KEEP ALIVE", 9, desk, Check.number(0));
        closes("a second BITFIELD behind that", 5, desk, Check.message(5, Check.bytes(0x40)));
    }

    // "REQUEST: no such PIECE, no bytes or more than 64, or beyond the PIECE's end: CLOSED, 6."

    private static SwarmDesk asked() {
        SwarmDesk desk = open(true);
        keeps("INTERESTED", 2, desk, Check.message(2));
        desk.hear(0);
        return desk;
    }

    private static void refuses(long p, long where, long count) {
        String what = "REQUEST of " + p + ", " + where + ", " + count;
        SwarmDesk desk = asked();
        closes(what, 6, desk, Check.request(p, where, count));
        Check.same(what + ": SENT", desk.count(0, 2), 0);
        closes(what + ", choked", 6, open(true), Check.request(p, where, count));
        closes(what + ", of one with nothing", 6, open(false), Check.request(p, where, count));
    }

    private static void answers(int p, int where, int count) {
        SwarmDesk desk = asked();
        keeps("REQUEST", 6, desk, Check.request(p, where, count));
        Check.same("SENT", desk.count(0, 2), 1);
        Check.sameBytes("the bytes of " + p + ", " + where + ", " + count, Check.hear(desk, 0),
            Check.block(CONTENT, 100, p, where, count));
    }

    private static void requestOfNoSuchPiece() {
        for (long p : new long[] {3, 4, 64, 256, 0x10000, 0x1000000, 0x7FFFFFFFL, 0x80000000L, 0xFFFFFFFFL}) {
            refuses(p, 0, 1);
        }
        answers(2, 0, 1);
    }

    private static void requestOfNoBytes() {
        refuses(0, 0, 0);
        refuses(0, 99, 0);
        refuses(0, 100, 0);
        refuses(2, 50, 0);
        answers(0, 0, 1);
        answers(0, 99, 1);
    }

    private static void requestOf64() {
        answers(0, 0, 63);
        answers(0, 0, 64);
        answers(1, 1, 64);
    }

    private static void requestOfMoreThan64() {
        for (long count : new long[] {65, 100, 256, 257, 0x10001, 0x1000001, 0x7FFFFFFFL, 0x80000000L, 0x80000001L, 0xFFFFFFFFL}) {
            refuses(0, 0, count);
        }
    }

    private static void requestUpToTheEnd() {
        answers(0, 36, 64);
        answers(1, 99, 1);
        answers(2, 0, 50);
        answers(2, 49, 1);
    }

    private static void requestBeyondTheEnd() {
        refuses(0, 37, 64);
        refuses(0, 99, 2);
        refuses(0, 100, 1);
        refuses(1, 100, 1);
        refuses(2, 0, 51);
        refuses(2, 49, 2);
        refuses(2, 50, 1);
    }

    /** Four bytes hold numbers up to 4294967295, none below 0: their sum is beyond the end. */
    private static void requestThatWrapsAround() {
        for (long where : new long[] {256, 0x10000, 0x1000000, 0x7FFFFFC0L, 0x7FFFFFFFL, 0x80000000L, 0xFFFFFFC0L, 0xFFFFFFFFL}) {
            refuses(0, where, 1);
            refuses(0, where, 64);
        }
        refuses(0, 0xFFFFFFFFL, 0xFFFFFFFFL);
        refuses(0, 1, 0xFFFFFFFFL);
        refuses(0, 64, 0xFFFFFFC1L);
    }

    // "if it does not CHOKE the other one and HAS the PIECE, it sends that PIECE's bytes (SENT is one more); else nothing"

    private static void requestWhileChoked() {
        SwarmDesk desk = open(true);
        keeps("REQUEST", 6, desk, Check.request(0, 0, 64));
        Check.same("nothing is sent", desk.hear(0), 0);
        Check.same("SENT", desk.count(0, 2), 0);
        keeps("INTERESTED", 2, desk, Check.message(2));
        keeps("NOT INTERESTED", 3, desk, Check.message(3));
        desk.hear(0);
        keeps("REQUEST, choked again", 6, desk, Check.request(0, 0, 64));
        Check.same("nothing is sent again", desk.hear(0), 0);
    }

    private static void requestOfWhatItHasNot() {
        SwarmDesk desk = open(false);
        Check.say(desk, 0, Check.message(1), Check.message(2), Check.message(4, Check.number(0)), Check.block(CONTENT, 100, 0, 0, 64));
        desk.pump(4);
        desk.hear(0);
        Check.same("a BLOCK CAME", desk.piece(0, 0), 1);
        keeps("REQUEST of that BLOCK", 6, desk, Check.request(0, 0, 64));
        keeps("REQUEST of another PIECE", 6, desk, Check.request(1, 0, 64));
        Check.same("nothing is sent", desk.hear(0), 0);
        Check.same("SENT", desk.count(0, 2), 0);
    }

    // "CANCEL: nothing (what is asked for is sent at once)."

    private static void cancelOfAnything() {
        SwarmDesk desk = asked();
        for (long n : new long[] {0, 1, 3, 65, 0x7FFFFFFFL, 0x80000000L, 0xFFFFFFFFL}) {
            keeps("CANCEL of " + n, 8, desk, Check.message(8, Check.number(n), Check.number(n), Check.number(n)));
        }
        Check.same("nothing is sent", desk.hear(0), 0);
        keeps("REQUEST", 6, desk, Check.request(0, 0, 64));
        keeps("CANCEL of it", 8, desk, Check.message(8, Check.number(0), Check.number(0), Check.number(64)));
        Check.same("it was sent at once", desk.hear(0), 77);
    }

    // Promise 21: "as often as n (1 .. 2000) allows .. until there is nothing in such a round, or n ACTS were done:
    // how many. NONE for another n."

    private static SwarmDesk three() {
        SwarmDesk desk = Check.made(CONTENT, 100);
        desk.client(0, true);
        desk.client(1, false);
        desk.client(3, false);
        desk.connect(0, 1);
        desk.connect(1, 3);
        desk.connect(0, 3);
        return desk;
    }

    private static void pump0() {
        SwarmDesk desk = three();
        Check.same("pump(0)", desk.pump(0), -1);
        Check.same("nothing is done", desk.known(0, 1, 8), 68);
        Check.same("pump without METAINFO", new SwarmDesk().pump(1), 0);
        Check.same("pump(0) without METAINFO", new SwarmDesk().pump(0), -1);
    }

    private static void pump1() {
        SwarmDesk desk = three();
        Check.same("pump(1)", desk.pump(1), 1);
        Check.same("0 ACTED on 1", desk.known(0, 1, 1), 1);
        Check.same("and not on 3", desk.known(0, 3, 1), 0);
        Check.same("pump(1) again", desk.pump(1), 1);
        Check.same("0 ACTED on 3", desk.known(0, 3, 1), 1);
        Check.same("1 did not act", desk.known(1, 0, 1), 0);
    }

    private static void pump2000() {
        SwarmDesk desk = Check.made(CONTENT, 100);
        desk.client(0, false);
        desk.client(3, false);
        desk.connect(0, 4);
        desk.connect(3, 4);
        // Each says the HELLO of 0, whose NAME counts for nothing.
        desk.hear(0);
        desk.take();
        desk.say(0);
        desk.take();
        desk.say(3);
        Check.same("two HELLOS", desk.pump(2000), 2);
        desk.connect(0, 3);
        Check.same("1000 KEEP ALIVES to 0", Check.say(desk, 0, new byte[4000]), 4000);
        Check.same("1000 KEEP ALIVES to 3", Check.say(desk, 3, new byte[4000]), 4000);
        // Two HELLOS more are there: 2002 ACTS.
        Check.same("pump(2000) of 2002", desk.pump(2000), 2000);
        Check.same("what is left", desk.known(0, 4, 8) + desk.known(3, 4, 8), 8);
        Check.same("pump(2000) of 2", desk.pump(2000), 2);
        Check.same("pump(2000) of none", desk.pump(2000), 0);
    }

    private static void pumpOfAnotherN() {
        SwarmDesk desk = three();
        for (int n : new int[] {Integer.MIN_VALUE, -2000, -1, 0, 2001, 4000, Integer.MAX_VALUE}) {
            Check.same("pump(" + n + ")", desk.pump(n), -1);
        }
        Check.same("nothing is done", desk.known(0, 1, 8) + desk.known(1, 0, 8) + desk.known(3, 1, 8), 3 * 68);
    }

    /** The next pump begins with 0 again, wherever the last one ended. */
    private static void pumpInTheMiddleOfARound() {
        SwarmDesk desk = three();
        Check.same("pump(3)", desk.pump(3), 3);
        Check.same("1 ACTED on 0", desk.known(1, 0, 1), 1);
        Check.same("1 did not on 3", desk.known(1, 3, 1), 0);
        // 1 heard 0's HELLO, and what is whole for 0 is nothing yet; 1's next is 0's BITFIELD.
        Check.same("pump(1)", desk.pump(1), 1);
        Check.same("1 ACTED on 0 again", desk.known(1, 0, 6), 3);
        Check.same("1 did not on 3 again", desk.known(1, 3, 1), 0);
        // Now 0 heard that 1 is INTERESTED.
        Check.same("pump(1)", desk.pump(1), 1);
        Check.same("0 ACTED on 1", desk.known(0, 1, 5), 1);
    }

    private static void pumpUntilThereIsNothing() {
        SwarmDesk one = three();
        int all = one.pump(2000);
        Check.yes("some ACTS", all > 10 && all < 2000);
        Check.same("no more", one.pump(1), 0);
        Check.same("just as many", three().pump(all), all);
        Check.same("one more than there are", three().pump(all + 1), all);
        Check.same("one less", three().pump(all - 1), all - 1);
        SwarmDesk single = three();
        int acts = 0;
        while (acts < 200 && single.pump(1) == 1) {
            acts++;
        }
        Check.same("all is there, pumped one by one", single.count(1, 0) + single.count(3, 0), 6);
    }
}
