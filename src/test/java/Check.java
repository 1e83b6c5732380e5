import java.io.ByteArrayOutputStream;
import java.nio.charset.StandardCharsets;
import java.security.MessageDigest;
import java.security.NoSuchAlgorithmException;
import java.util.Arrays;

/** What the tests share: counting wrong answers, and bytes for the TAPE and from OUT. */
final class Check {
    private static int wrong = 0;

    private Check() {
    }

    static void same(String what, long got, long want) {
        if (got != want) {
            wrong++;
            System.out.println(what + " answered " + got + ", due is " + want);
        }
    }

    static void yes(String what, boolean got) {
        same(what, got ? 1 : 0, 1);
    }

    static void no(String what, boolean got) {
        same(what, got ? 1 : 0, 0);
    }

    static void sameBytes(String what, byte[] got, byte[] want) {
        if (!Arrays.equals(got, want)) {
            wrong++;
            System.out.println(what + " is " + Arrays.toString(got) + ", due is " + Arrays.toString(want));
        }
    }

    static void finish() {
        if (wrong != 0) {
            System.out.println(wrong + " answers are not as due");
            System.exit(1);
        }
    }

    static byte[] text(String s) {
        return s.getBytes(StandardCharsets.ISO_8859_1);
    }

    static byte[] join(byte[]... parts) {
        ByteArrayOutputStream all = new ByteArrayOutputStream();
        for (byte[] part : parts) {
            all.writeBytes(part);
        }
        return all.toByteArray();
    }

    static byte[] number(long n) {
        return new byte[] {(byte) (n >> 24), (byte) (n >> 16), (byte) (n >> 8), (byte) n};
    }

    static byte[] bytes(int... values) {
        byte[] row = new byte[values.length];
        for (int i = 0; i < row.length; i++) {
            row[i] = (byte) values[i];
        }
        return row;
    }

    /** Bytes no two near parts of which are alike. */
    static byte[] content(int length) {
        byte[] row = new byte[length];
        for (int i = 0; i < length; i++) {
            row[i] = (byte) (i * 7 + i / 64 * 13 + 1);
        }
        return row;
    }

    static byte[] sha(byte[] source) {
        try {
            return MessageDigest.getInstance("SHA-1").digest(source);
        } catch (NoSuchAlgorithmException e) {
            throw new IllegalStateException(e);
        }
    }

    static byte[] pieceSums(byte[] content, int pieceLength) {
        ByteArrayOutputStream all = new ByteArrayOutputStream();
        for (int i = 0; i < content.length; i += pieceLength) {
            all.writeBytes(sha(Arrays.copyOfRange(content, i, Math.min(content.length, i + pieceLength))));
        }
        return all.toByteArray();
    }

    /** A message of the peer wire with the length that it has. */
    static byte[] message(int kind, byte[]... parts) {
        byte[] body = join(parts);
        return join(number(1 + body.length), bytes(kind), body);
    }

    static byte[] request(long piece, long where, long count) {
        return message(6, number(piece), number(where), number(count));
    }

    static byte[] hello(byte[] hash) {
        return join(bytes(19), text("BitTorrent protocol"), new byte[8], hash, text("-XX0000-somebody-out"));
    }

    /** Puts just these bytes on the TAPE. */
    static void tape(SwarmDesk desk, byte[] row) {
        desk.end(0);
        for (int i = 0; i < row.length; i += 20) {
            byte[] part = Arrays.copyOfRange(row, i, i + 20);
            int[] n = new int[5];
            for (int k = 0; k < 20; k++) {
                n[k / 4] = n[k / 4] << 8 | part[k] & 255;
            }
            desk.feed(n[0], n[1], n[2], n[3], n[4]);
        }
        same("end", desk.end(row.length), row.length);
    }

    static int say(SwarmDesk desk, int a, byte[]... parts) {
        tape(desk, join(parts));
        return desk.say(a);
    }

    static byte[] hear(SwarmDesk desk, int a) {
        return out(desk, desk.hear(a));
    }

    /** The first bytes of OUT, and a look that there are no more. */
    static byte[] out(SwarmDesk desk, int length) {
        byte[] row = new byte[Math.max(0, length)];
        for (int i = 0; i < row.length; i++) {
            row[i] = (byte) desk.out(i);
        }
        same("out behind the last byte", desk.out(row.length), SwarmDesk.NONE);
        return row;
    }

    /** A look at all of the TAPE, which is empty behind it, as OUT has its SHA-1 then. */
    static void tapeIs(String what, SwarmDesk desk, byte[] row) {
        same(what + ": one byte more", desk.end(row.length + 1), SwarmDesk.NONE);
        same(what + ": its length", desk.end(row.length), row.length);
        desk.digest();
        sameBytes(what + ": its SHA-1", out(desk, 20), sha(row));
    }

    static int load(SwarmDesk desk, byte[] row) {
        tape(desk, row);
        return desk.load();
    }

    static int load(SwarmDesk desk, String row) {
        return load(desk, text(row));
    }

    static byte[] hash(SwarmDesk desk) {
        return out(desk, desk.hash());
    }

    /** A desk with a made CONTENT, and no client yet. */
    static SwarmDesk made(byte[] content, int pieceLength) {
        SwarmDesk desk = new SwarmDesk();
        tape(desk, content);
        desk.make(pieceLength);
        return desk;
    }

    /** A desk whose client 0 is connected with somebody outside, whose HELLO came. */
    static SwarmDesk greeted(byte[] content, int pieceLength, boolean full) {
        SwarmDesk desk = made(content, pieceLength);
        desk.client(0, full);
        desk.connect(0, 4);
        desk.hear(0);
        say(desk, 0, hello(hash(desk)));
        same("act on a hello", desk.act(0, 4), 10);
        return desk;
    }

    /** The message with those bytes of a content. */
    static byte[] block(byte[] content, int pieceLength, int p, int where, int count) {
        int begin = p * pieceLength + where;
        return message(7, number(p), number(where), Arrays.copyOfRange(content, begin, begin + count));
    }

    /**
     * Client a, whom somebody outside greeted and who does not choke it, sends that many bytes to
     * outside: answers to requests for parts of piece 0, of which it has 64 bytes.
     */
    static void fill(SwarmDesk desk, int a, int bytes) {
        ByteArrayOutputStream all = new ByteArrayOutputStream();
        int acts = 0;
        for (int left = bytes; left > 0; acts++) {
            int size = left <= 77 ? left : left < 77 + 14 ? 40 : 77;
            all.writeBytes(request(0, 0, size - 13));
            left -= size;
        }
        say(desk, a, all.toByteArray());
        for (int n = 0; n < acts; n++) {
            same("act on a request", desk.act(a, 4), 6);
        }
    }
}
