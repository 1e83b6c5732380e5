import java.util.Arrays;

/**
 * A swarm on a desk: bencode and metainfo, SHA-1, and up to four BitTorrent clients that speak the
 * peer wire to one another and to somebody outside, byte by byte.
 */
public final class SwarmDesk {
    public static final int NONE = -1;

    private static final int MOST_TAPE = 6000;
    private static final int MOST_CONTENT = 4096;
    private static final int MOST_WIRE = 4000;
    private static final int MOST_PIECES = 64;
    private static final int LEAST_PIECE_LENGTH = 32;
    private static final int MOST_PIECE_LENGTH = 1024;
    private static final int MOST_FILES = 16;
    private static final int MOST_PATH = 8;
    private static final int MOST_NAME = 60;
    private static final int MOST_OPEN = 8;
    private static final int MOST_ACTS = 2000;
    private static final int SUM = 20;
    private static final int BLOCK = 64;
    /** A block's code is its piece's number times this and its own number in the piece. */
    private static final int CODES = MOST_PIECE_LENGTH / BLOCK;

    private static final int CLIENTS = 4;
    private static final int OUTSIDE = 4;
    private static final int ALL = 5;
    private static final int MOST_ASKED = 4;
    private static final int MOST_UNCHOKED = 3;

    private static final String PROTOCOL = "BitTorrent protocol";
    private static final String NAME = "-JD0001-00000000000";
    private static final int HELLO_SIZE = 68;
    private static final int HASH_IN_HELLO = 28;
    private static final int MOST_N = 100;
    private static final int MOST_MESSAGE = 104;

    private static final int CHOKE = 0;
    private static final int UNCHOKE = 1;
    private static final int INTERESTED = 2;
    private static final int NOT_INTERESTED = 3;
    private static final int HAVE = 4;
    private static final int BITFIELD = 5;
    private static final int REQUEST = 6;
    private static final int PIECE = 7;
    private static final int CANCEL = 8;
    private static final int KEEP_ALIVE = 9;
    private static final int HELLO = 10;
    private static final int UNKNOWN = 11;
    private static final int TOO_LONG = 12;
    private static final int CLOSED = 20;

    private static final int BAD_HELLO = 1;
    private static final int BAD_SIZE = 2;
    private static final int BAD_LENGTH = 3;
    private static final int BAD_HAVE = 4;
    private static final int BAD_BITFIELD = 5;
    private static final int BAD_REQUEST = 6;
    private static final int BAD_PIECE = 7;
    private static final int FULL_WIRE = 8;

    private final Row tape = new Row(MOST_TAPE);
    private final Row outRow = new Row(MOST_TAPE);
    private final Row content = new Row(MOST_CONTENT);
    private final Sha1 sha = new Sha1();
    private final Loader loader = new Loader(sha);
    private final Net net = new Net();
    private final Actor actor = new Actor(net, sha);
    private int faultPlace = NONE;

    public SwarmDesk() {
    }

    // ---- bytes

    public int feed(int a, int b, int c, int d, int e) {
        if (!tape.fits(SUM)) {
            return NONE;
        }
        tape.addNumber(a);
        tape.addNumber(b);
        tape.addNumber(c);
        tape.addNumber(d);
        tape.addNumber(e);
        return tape.size();
    }

    public int end(int n) {
        if (n < 0 || n > tape.size()) {
            return NONE;
        }
        tape.cut(n);
        return n;
    }

    public int take() {
        tape.cut(0);
        tape.addPart(outRow, 0, outRow.size());
        return tape.size();
    }

    public boolean alter(int i, int v) {
        return tape.change(i, v);
    }

    public int out(int i) {
        return outRow.at(i);
    }

    public int digest() {
        sha.run(tape, 0, tape.size());
        tape.cut(0);
        outRow.cut(0);
        sha.addTo(outRow);
        return SUM;
    }

    // ---- metainfo

    public int make(int pieceLength) {
        boolean right = isMakeable(tape.size(), pieceLength);
        if (right) {
            content.cut(0);
            content.addPart(tape, 0, tape.size());
        }
        tape.cut(0);
        if (!right) {
            return NONE;
        }
        writeMetainfo(pieceLength);
        // What was just written has no fault, so the answer tells nothing new.
        loader.read(outRow);
        net.restart(loader.handOver(net.torrent));
        return outRow.size();
    }

    public int load() {
        int fault = loader.read(tape);
        tape.cut(0);
        faultPlace = loader.faultPlace;
        if (fault == 0) {
            content.cut(0);
            net.restart(loader.handOver(net.torrent));
        }
        return fault;
    }

    public int place() {
        return faultPlace;
    }

    public int torrent(int what) {
        Torrent torrent = net.torrent;
        if (!torrent.isSet()) {
            return NONE;
        }
        switch (what) {
            case 0: return torrent.length;
            case 1: return torrent.pieceLength;
            case 2: return torrent.pieces;
            case 3: return torrent.files;
            default: return NONE;
        }
    }

    public int file(int k, int what) {
        Torrent torrent = net.torrent;
        if (k < 0 || k >= torrent.files || k >= MOST_FILES) {
            return NONE;
        }
        switch (what) {
            case 0: return torrent.fileLengths[k];
            case 1: return torrent.fileBegins[k];
            case 2: return torrent.filePaths[k];
            default: return NONE;
        }
    }

    public int hash() {
        if (!net.torrent.isSet()) {
            return NONE;
        }
        outRow.cut(0);
        outRow.addPart(net.torrent.infoHash, 0, SUM);
        return SUM;
    }

    private boolean isMakeable(int length, int pieceLength) {
        return isWithin(length, 1, MOST_CONTENT)
            && isWithin(pieceLength, LEAST_PIECE_LENGTH, MOST_PIECE_LENGTH)
            && length <= MOST_PIECES * pieceLength;
    }

    private void writeMetainfo(int pieceLength) {
        int length = content.size();
        int pieces = countParts(length, pieceLength);
        outRow.cut(0);
        outRow.addText("d4:infod6:lengthi");
        outRow.addDecimal(length);
        outRow.addText("e4:name1:a12:piece lengthi");
        outRow.addDecimal(pieceLength);
        outRow.addText("e6:pieces");
        outRow.addDecimal(SUM * pieces);
        outRow.addText(":");
        for (int p = 0; p < pieces; p++) {
            int begin = p * pieceLength;
            sha.run(content, begin, Math.min(pieceLength, length - begin));
            sha.addTo(outRow);
        }
        outRow.addText("ee");
    }

    // ---- clients

    public boolean client(int k, boolean full) {
        if (k < 0 || k >= CLIENTS || !net.torrent.isSet() || full && content.size() == 0) {
            return false;
        }
        net.begin(k);
        if (full) {
            net.fill(k, content);
        }
        return true;
    }

    public boolean connect(int a, int b) {
        Link link = net.linkOf(a, b);
        if (link == null || link.open || !net.canJoin(a) || !net.canJoin(b)) {
            return false;
        }
        net.join(a, b);
        return true;
    }

    public boolean close(int a, int b) {
        Link link = net.linkOf(a, b);
        if (link == null || !link.open) {
            return false;
        }
        net.part(a, b, 0);
        return true;
    }

    public int say(int a) {
        Link link = net.linkOf(a, OUTSIDE);
        boolean right = link != null && link.open && link.wire.fits(tape.size());
        if (right) {
            link.wire.addPart(tape, 0, tape.size());
        }
        tape.cut(0);
        return right ? link.wire.size() : NONE;
    }

    public int hear(int a) {
        Link link = net.linkOf(OUTSIDE, a);
        if (link == null || !link.open) {
            return NONE;
        }
        outRow.cut(0);
        outRow.addPart(link.wire, 0, link.wire.size());
        link.wire.cut(0);
        return outRow.size();
    }

    public boolean meddle(int a, int b, int i, int v) {
        Link link = net.linkOf(b, a);
        return link != null && link.wire.change(i, v);
    }

    public int act(int a, int b) {
        return actor.step(a, b);
    }

    public int pump(int n) {
        if (!isWithin(n, 1, MOST_ACTS)) {
            return NONE;
        }
        int done = 0;
        boolean idle = false;
        // A round that does not act is the last one, so n rounds are always enough.
        for (int round = 0; round < n && !idle && done < n; round++) {
            int before = done;
            for (int turn = 0; turn < CLIENTS * ALL && done < n; turn++) {
                if (actor.step(turn / ALL, turn % ALL) != NONE) {
                    done++;
                }
            }
            idle = done == before;
        }
        return done;
    }

    // ---- what is told

    public int known(int a, int b, int what) {
        Link link = net.linkOf(a, b);
        if (link == null || net.clientOf(a) == null) {
            return NONE;
        }
        switch (what) {
            case 0: return link.open ? 1 : 0;
            case 1: return link.hello ? 1 : 0;
            case 2: return link.chokes ? 1 : 0;
            case 3: return link.interested ? 1 : 0;
            case 4: return link.choked ? 1 : 0;
            case 5: return link.otherInterested ? 1 : 0;
            case 6: return Long.bitCount(link.has);
            case 7: return link.askedCount;
            case 8: return link.wire.size();
            case 9: return link.reason;
            default: return NONE;
        }
    }

    public int piece(int a, int p) {
        Client client = net.clientOf(a);
        if (client == null || !net.torrent.isPiece(p)) {
            return NONE;
        }
        if (client.hasPiece(p)) {
            return 2;
        }
        return client.came[p] != 0 ? 1 : 0;
    }

    public int told(int a, int b, int p) {
        Link link = net.linkOf(a, b);
        if (link == null || net.clientOf(a) == null || !link.open || !net.torrent.isPiece(p)) {
            return NONE;
        }
        return link.tellsOf(p) ? 1 : 0;
    }

    public int disk(int a, int i) {
        Client client = net.clientOf(a);
        return client == null ? NONE : client.disk.at(i);
    }

    public int count(int a, int what) {
        Client client = net.clientOf(a);
        if (client == null) {
            return NONE;
        }
        switch (what) {
            case 0: return Long.bitCount(client.has);
            case 1: return client.taken;
            case 2: return client.sent;
            case 3: return client.failed;
            case 4: return client.unasked;
            default: return NONE;
        }
    }

    private static boolean isWithin(int n, int least, int most) {
        return n >= least && n <= most;
    }

    /** How many parts of so many bytes there are, the last one begun or whole. */
    private static int countParts(int length, int part) {
        return part <= 0 ? 0 : (length + part - 1) / part;
    }

    /**
     * A row of bytes with a limit. Its array is made once, as long as the limit, so that no call
     * ever makes another one.
     */
    private static final class Row {
        private final byte[] bytes;
        private int length = 0;

        Row(int most) {
            bytes = new byte[Math.max(0, most)];
        }

        int size() {
            return length;
        }

        int at(int i) {
            return i < 0 || i >= length ? NONE : bytes[i] & 255;
        }

        /** Four bytes, the highest first, as a number that is never below 0 if they are there. */
        long number(int i) {
            if (i < 0 || i > length - 4) {
                return NONE;
            }
            return (bytes[i] & 255L) << 24 | (bytes[i + 1] & 255L) << 16
                | (bytes[i + 2] & 255L) << 8 | bytes[i + 3] & 255L;
        }

        boolean change(int i, int v) {
            if (i < 0 || i >= length) {
                return false;
            }
            bytes[i] = (byte) v;
            return true;
        }

        boolean fits(int n) {
            return n >= 0 && n <= bytes.length - length;
        }

        void cut(int n) {
            if (n >= 0 && n <= length) {
                length = n;
            }
        }

        void add(int v) {
            if (fits(1)) {
                bytes[length] = (byte) v;
                length++;
            }
        }

        void addNumber(int v) {
            if (fits(4)) {
                bytes[length] = (byte) (v >>> 24);
                bytes[length + 1] = (byte) (v >>> 16);
                bytes[length + 2] = (byte) (v >>> 8);
                bytes[length + 3] = (byte) v;
                length += 4;
            }
        }

        void addText(String text) {
            for (int i = 0; i < text.length(); i++) {
                add(text.charAt(i));
            }
        }

        void addDecimal(int n) {
            int unit = 1;
            for (int i = 0; i < 8 && unit <= n / 10; i++) {
                unit *= 10;
            }
            for (; unit > 0; unit /= 10) {
                add('0' + n / unit % 10);
            }
        }

        void addPart(Row from, int begin, int count) {
            if (begin >= 0 && fits(count) && begin <= from.length - count) {
                System.arraycopy(from.bytes, begin, bytes, length, count);
                length += count;
            }
        }

        void dropFirst(int n) {
            if (n >= 0 && n <= length) {
                System.arraycopy(bytes, n, bytes, 0, length - n);
                length -= n;
            }
        }

        void becomeZeros(int n) {
            if (n >= 0 && n <= bytes.length) {
                Arrays.fill(bytes, 0, n, (byte) 0);
                length = n;
            }
        }
    }

    /** SHA-1 as FIPS 180 has it; the latest sum stays until the next run. */
    private static final class Sha1 {
        private final int[] words = new int[80];
        private final int[] sum = new int[5];

        void run(Row source, int begin, int count) {
            sum[0] = 0x67452301;
            sum[1] = 0xEFCDAB89;
            sum[2] = 0x98BADCFE;
            sum[3] = 0x10325476;
            sum[4] = 0xC3D2E1F0;
            int chunks = (count + 8) / 64 + 1;
            for (int k = 0; k < chunks; k++) {
                for (int t = 0; t < 16; t++) {
                    words[t] = word(source, begin, count, 64 * k + 4 * t);
                }
                if (k == chunks - 1) {
                    words[15] = 8 * count;
                }
                mix();
            }
        }

        int byteAt(int i) {
            return i < 0 || i >= SUM ? NONE : sum[i / 4] >>> 24 - 8 * (i % 4) & 255;
        }

        void addTo(Row target) {
            for (int i = 0; i < SUM; i++) {
                target.add(byteAt(i));
            }
        }

        boolean isAt(Row row, int begin) {
            for (int i = 0; i < SUM; i++) {
                if (row.at(begin + i) != byteAt(i)) {
                    return false;
                }
            }
            return true;
        }

        private static int word(Row source, int begin, int count, int from) {
            int word = 0;
            for (int i = from; i < from + 4; i++) {
                int next = i == count ? 128 : 0;
                word = word << 8 | (i < count ? source.at(begin + i) & 255 : next);
            }
            return word;
        }

        private void mix() {
            for (int t = 16; t < 80; t++) {
                words[t] = turn(words[t - 3] ^ words[t - 8] ^ words[t - 14] ^ words[t - 16], 1);
            }
            int a = sum[0];
            int b = sum[1];
            int c = sum[2];
            int d = sum[3];
            int e = sum[4];
            for (int t = 0; t < 80; t++) {
                int next = turn(a, 5) + blend(t, b, c, d) + e + words[t];
                e = d;
                d = c;
                c = turn(b, 30);
                b = a;
                a = next;
            }
            sum[0] += a;
            sum[1] += b;
            sum[2] += c;
            sum[3] += d;
            sum[4] += e;
        }

        private static int turn(int word, int bits) {
            return word << bits | word >>> 32 - bits;
        }

        private static int blend(int t, int b, int c, int d) {
            if (t < 20) {
                return (b & c | ~b & d) + 0x5A827999;
            }
            if (t < 40) {
                return (b ^ c ^ d) + 0x6ED9EBA1;
            }
            if (t < 60) {
                return (b & c | b & d | c & d) + 0x8F1BBCDC;
            }
            return (b ^ c ^ d) + 0xCA62C1D6;
        }
    }

    /** Canonical bencode in a row of bytes: finds its first fault, and then what is in it. */
    private static final class Bencode {
        private Row text = new Row(0);
        /** Where the VALUE or KEY that begins at a place ends, so that looking up parses nothing twice. */
        private final int[] ends = new int[MOST_TAPE];
        int fault = NONE;

        /** The end of the VALUE with which that text begins; NONE if it has a fault, which is kept then. */
        int open(Row source) {
            text = source;
            fault = NONE;
            return skip(0, 0);
        }

        private int skip(int at, int depth) {
            int first = text.at(at);
            if (isDigit(first)) {
                return skipString(at);
            }
            if (first == 'i') {
                return skipNumber(at);
            }
            if (first != 'l' && first != 'd' || depth >= MOST_OPEN) {
                return faultAt(at);
            }
            return note(at, skipInside(at + 1, depth + 1, first == 'd'));
        }

        private int skipInside(int from, int depth, boolean pairs) {
            int at = from;
            int key = NONE;
            // Each turn takes a byte at least, so the text's length bounds them.
            for (int n = 0; n <= text.size() && text.at(at) != 'e'; n++) {
                if (pairs) {
                    int begin = at;
                    at = skipString(begin);
                    if (at != NONE && key != NONE && !rises(key, begin)) {
                        at = faultAt(begin);
                    }
                    key = begin;
                }
                if (at != NONE) {
                    at = skip(at, depth);
                }
                if (at == NONE) {
                    return NONE;
                }
            }
            return at + 1;
        }

        private int skipNumber(int from) {
            boolean minus = text.at(from + 1) == '-';
            int begin = minus ? from + 2 : from + 1;
            if (minus && text.at(begin) == '0') {
                return faultAt(begin);
            }
            int end = skipDigits(begin, 9);
            if (end != NONE && text.at(end) != 'e') {
                return faultAt(end);
            }
            return end == NONE ? NONE : note(from, end + 1);
        }

        private int skipString(int from) {
            int end = skipDigits(from, 4);
            if (end == NONE) {
                return NONE;
            }
            if (text.at(end) != ':') {
                return faultAt(end);
            }
            int count = decimal(from);
            if (count > text.size() - end - 1) {
                return faultAt(from);
            }
            return note(from, end + 1 + count);
        }

        private int skipDigits(int from, int most) {
            if (!isDigit(text.at(from))) {
                return faultAt(from);
            }
            // A 0 ahead has nothing behind it: the digit there is the caller's fault to find.
            int last = text.at(from) == '0' ? from + 1 : from + most;
            int end = from + 1;
            while (end < last && isDigit(text.at(end))) {
                end++;
            }
            return end;
        }

        private int faultAt(int at) {
            fault = at;
            return NONE;
        }

        private int note(int at, int end) {
            if (at >= 0 && at < ends.length) {
                ends[at] = end;
            }
            return end;
        }

        private boolean rises(int key, int next) {
            int keyLength = decimal(key);
            int nextLength = decimal(next);
            int keyBegin = endOf(key) - keyLength;
            int nextBegin = endOf(next) - nextLength;
            for (int i = 0; i < keyLength && i < nextLength; i++) {
                int here = text.at(keyBegin + i);
                int there = text.at(nextBegin + i);
                if (here != there) {
                    return here < there;
                }
            }
            return keyLength < nextLength;
        }

        int endOf(int at) {
            return at < 0 || at >= ends.length ? NONE : ends[at];
        }

        boolean isKind(int at, char kind) {
            return text.at(at) == kind;
        }

        /** How many bytes the STRING there has; NONE if there is none. */
        int textLength(int at) {
            return isDigit(text.at(at)) ? decimal(at) : NONE;
        }

        /** The number there; NONE, which no range of the document has, if there is none. */
        int numberAt(int at) {
            if (text.at(at) != 'i') {
                return NONE;
            }
            return text.at(at + 1) == '-' ? -decimal(at + 2) : decimal(at + 1);
        }

        /** Where the VALUE of that KEY begins; NONE if there is no d, or no such KEY in it. */
        int find(int dict, String key) {
            if (text.at(dict) != 'd') {
                return NONE;
            }
            int at = dict + 1;
            for (int n = 0; n < text.size() && isDigit(text.at(at)); n++) {
                int value = endOf(at);
                if (isText(at, key)) {
                    return value;
                }
                at = endOf(value);
            }
            return NONE;
        }

        private boolean isText(int at, String wanted) {
            int begin = endOf(at) - wanted.length();
            if (textLength(at) != wanted.length()) {
                return false;
            }
            for (int i = 0; i < wanted.length(); i++) {
                if (text.at(begin + i) != wanted.charAt(i)) {
                    return false;
                }
            }
            return true;
        }

        private int decimal(int from) {
            int n = 0;
            for (int i = from; i < from + 9 && isDigit(text.at(i)); i++) {
                n = 10 * n + text.at(i) - '0';
            }
            return n;
        }

        private static boolean isDigit(int c) {
            return c >= '0' && c <= '9';
        }
    }

    /** What METAINFO tells. Without METAINFO it has no pieces. */
    private static final class Torrent {
        int length = 0;
        int pieceLength = 0;
        int pieces = 0;
        int files = 0;
        final int[] fileLengths = new int[MOST_FILES];
        final int[] fileBegins = new int[MOST_FILES];
        final int[] filePaths = new int[MOST_FILES];
        final Row infoHash = new Row(SUM);
        final Row pieceHashes = new Row(SUM * MOST_PIECES);

        boolean isSet() {
            return pieces > 0;
        }

        boolean isPiece(long p) {
            return p >= 0 && p < pieces && p < MOST_PIECES;
        }

        int pieceBegin(int p) {
            return p * pieceLength;
        }

        int pieceSize(int p) {
            return Math.min(pieceLength, length - pieceBegin(p));
        }

        int blockSize(int p, int block) {
            return Math.min(BLOCK, pieceSize(p) - BLOCK * block);
        }

        /** A bit for each block of the piece. */
        int allBlocks(int p) {
            return (1 << countParts(pieceSize(p), BLOCK)) - 1;
        }

        /** A bit for each piece. */
        long allPieces() {
            return pieces >= MOST_PIECES ? -1L : (1L << pieces) - 1;
        }

        int bitfieldBytes() {
            return countParts(pieces, 8);
        }

        void writeHello(Row row, int client) {
            row.cut(0);
            row.add(PROTOCOL.length());
            row.addText(PROTOCOL);
            row.addNumber(0);
            row.addNumber(0);
            row.addPart(infoHash, 0, SUM);
            row.addText(NAME);
            row.add('0' + client);
        }

        boolean isHello(Row row) {
            if (row.at(0) != PROTOCOL.length()) {
                return false;
            }
            for (int i = 0; i < PROTOCOL.length(); i++) {
                if (row.at(1 + i) != PROTOCOL.charAt(i)) {
                    return false;
                }
            }
            for (int i = 0; i < SUM; i++) {
                if (row.at(HASH_IN_HELLO + i) != infoHash.at(i)) {
                    return false;
                }
            }
            return true;
        }
    }

    /** Reads METAINFO into a draft, so that a fault leaves what there was as it is. */
    private static final class Loader {
        private final Sha1 sha;
        private final Bencode bencode = new Bencode();
        private Torrent draft = new Torrent();
        int faultPlace = NONE;

        Loader(Sha1 sha) {
            this.sha = sha;
        }

        /** The draft, for another one that is to be written over. */
        Torrent handOver(Torrent old) {
            Torrent ready = draft;
            draft = old;
            return ready;
        }

        /** The FAULT of that text, or 0: then the draft is what it tells. */
        int read(Row source) {
            int end = bencode.open(source);
            faultPlace = end == NONE ? bencode.fault : end;
            if (end != source.size()) {
                return 1;
            }
            faultPlace = NONE;
            int info = bencode.find(0, "info");
            if (!bencode.isKind(info, 'd')) {
                return 2;
            }
            if (!isWithin(bencode.textLength(bencode.find(info, "name")), 1, MOST_NAME)) {
                return 3;
            }
            draft.pieceLength = bencode.numberAt(bencode.find(info, "piece length"));
            if (!isWithin(draft.pieceLength, LEAST_PIECE_LENGTH, MOST_PIECE_LENGTH)) {
                return 4;
            }
            int length = bencode.find(info, "length");
            int files = bencode.find(info, "files");
            if ((length == NONE) == (files == NONE) || !(files == NONE ? readLength(length) : readFiles(files))) {
                return 5;
            }
            if (!readPieces(source, bencode.find(info, "pieces"))) {
                return 6;
            }
            sha.run(source, info, bencode.endOf(info) - info);
            draft.infoHash.cut(0);
            sha.addTo(draft.infoHash);
            return 0;
        }

        private boolean readLength(int length) {
            draft.files = 0;
            draft.length = bencode.numberAt(length);
            return isWithin(draft.length, 1, MOST_CONTENT);
        }

        private boolean readFiles(int files) {
            if (!bencode.isKind(files, 'l')) {
                return false;
            }
            draft.files = 0;
            draft.length = 0;
            int at = files + 1;
            for (int k = 0; k < MOST_FILES && !bencode.isKind(at, 'e'); k++) {
                int length = bencode.numberAt(bencode.find(at, "length"));
                int path = pathLength(bencode.find(at, "path"));
                if (!isWithin(length, 0, MOST_CONTENT) || path == NONE) {
                    return false;
                }
                draft.fileLengths[k] = length;
                draft.fileBegins[k] = draft.length;
                draft.filePaths[k] = path;
                draft.length += length;
                draft.files = k + 1;
                at = bencode.endOf(at);
            }
            return bencode.isKind(at, 'e') && isWithin(draft.length, 1, MOST_CONTENT);
        }

        /** How many STRINGS that path has; NONE if it is none. */
        private int pathLength(int path) {
            if (!bencode.isKind(path, 'l')) {
                return NONE;
            }
            int at = path + 1;
            int count = 0;
            while (count < MOST_PATH && isWithin(bencode.textLength(at), 1, MOST_NAME)) {
                at = bencode.endOf(at);
                count++;
            }
            return count > 0 && bencode.isKind(at, 'e') ? count : NONE;
        }

        private boolean readPieces(Row source, int at) {
            draft.pieces = countParts(draft.length, draft.pieceLength);
            int size = SUM * draft.pieces;
            if (draft.pieces > MOST_PIECES || bencode.textLength(at) != size) {
                return false;
            }
            draft.pieceHashes.cut(0);
            draft.pieceHashes.addPart(source, bencode.endOf(at) - size, size);
            return true;
        }
    }

    /** What one knows of another, and the WIRE from the other one. */
    private static final class Link {
        final int mine;
        final int other;
        final Row wire = new Row(MOST_WIRE);
        boolean open = false;
        boolean hello = false;
        /** Whether something but the HELLO and KEEP ALIVE came. */
        boolean spoke = false;
        boolean chokes = false;
        boolean choked = false;
        boolean interested = false;
        boolean otherInterested = false;
        long has = 0;
        final int[] asked = new int[MOST_ASKED];
        int askedCount = 0;
        int reason = 0;

        Link(int mine, int other) {
            this.mine = mine;
            this.other = other;
        }

        void start() {
            open = true;
            chokes = true;
            choked = true;
        }

        void finish(int why) {
            open = false;
            hello = false;
            spoke = false;
            chokes = false;
            choked = false;
            interested = false;
            otherInterested = false;
            has = 0;
            askedCount = 0;
            reason = why;
            wire.cut(0);
        }

        boolean tellsOf(int p) {
            return (has >>> p & 1) != 0;
        }

        /** How many bytes the first that came has; NONE if it is not whole. */
        int wholeSize() {
            long size = HELLO_SIZE;
            if (hello) {
                long n = wire.number(0);
                // One that is too long is known by its four bytes alone.
                size = n > MOST_N ? 4 : 4 + n;
                if (n == NONE) {
                    return NONE;
                }
            }
            return size > wire.size() ? NONE : (int) size;
        }

        void addAsked(int code) {
            if (askedCount < MOST_ASKED) {
                asked[askedCount] = code;
                askedCount++;
            }
        }

        /** The code at that slot, which is ASKED no more; their order counts for nothing. */
        int takeAsked(int slot) {
            if (slot < 0 || slot >= askedCount) {
                return NONE;
            }
            int code = asked[slot];
            askedCount--;
            asked[slot] = asked[askedCount];
            return code;
        }
    }

    private static final class Client {
        boolean there = false;
        final Row disk = new Row(MOST_CONTENT);
        /** A bit for each PIECE that it HAS. */
        long has = 0;
        /** Of each PIECE a bit for each BLOCK that CAME. */
        final int[] came = new int[MOST_PIECES];
        int taken = 0;
        int sent = 0;
        int failed = 0;
        int unasked = 0;

        void begin(int length) {
            there = true;
            disk.becomeZeros(length);
            has = 0;
            Arrays.fill(came, 0);
            taken = 0;
            sent = 0;
            failed = 0;
            unasked = 0;
        }

        boolean hasPiece(int p) {
            return (has >>> p & 1) != 0;
        }
    }

    /** The clients and what is between them. */
    private static final class Net {
        private final Client[] clients = new Client[CLIENTS];
        private final Link[] links = new Link[ALL * ALL];
        private final Row hello = new Row(HELLO_SIZE);
        Torrent torrent = new Torrent();

        Net() {
            for (int k = 0; k < CLIENTS; k++) {
                clients[k] = new Client();
            }
            // Nobody is connected with itself: those places stay null, and linkOf never answers them.
            for (int k = 0; k < ALL * ALL; k++) {
                if (k / ALL != k % ALL) {
                    links[k] = new Link(k / ALL, k % ALL);
                }
            }
        }

        void restart(Torrent next) {
            torrent = next;
            for (int a = 0; a < CLIENTS; a++) {
                clients[a].there = false;
                partFromAll(a);
            }
        }

        void begin(int k) {
            if (k >= 0 && k < CLIENTS) {
                partFromAll(k);
                clients[k].begin(torrent.length);
            }
        }

        void fill(int k, Row content) {
            Client client = clientOf(k);
            if (client != null) {
                client.disk.cut(0);
                client.disk.addPart(content, 0, content.size());
                client.has = torrent.allPieces();
            }
        }

        /** That client; null if it is not there. */
        Client clientOf(int k) {
            return k < 0 || k >= CLIENTS || !clients[k].there ? null : clients[k];
        }

        /** What a knows of b; null if these are no two of all. */
        Link linkOf(int a, int b) {
            return a < 0 || a >= ALL || b < 0 || b >= ALL || a == b ? null : links[ALL * a + b];
        }

        boolean canJoin(int k) {
            return k == OUTSIDE || clientOf(k) != null;
        }

        void join(int a, int b) {
            Link there = linkOf(a, b);
            Link back = linkOf(b, a);
            if (there != null && back != null) {
                there.start();
                back.start();
                greet(a, back);
                greet(b, there);
            }
        }

        private void greet(int from, Link target) {
            if (from != OUTSIDE) {
                torrent.writeHello(hello, from);
                target.wire.addPart(hello, 0, hello.size());
            }
        }

        void part(int a, int b, int reason) {
            Link there = linkOf(a, b);
            Link back = linkOf(b, a);
            if (there != null && back != null) {
                there.finish(reason);
                back.finish(reason);
            }
        }

        private void partFromAll(int a) {
            for (int b = 0; b < ALL; b++) {
                part(a, b, 0);
            }
        }

        /** Sends that note to the other one of the link. */
        void send(Link link, Row note) {
            Link back = linkOf(link.other, link.mine);
            if (back == null || !back.open) {
                return;
            }
            if (back.wire.fits(note.size())) {
                back.wire.addPart(note, 0, note.size());
            } else {
                part(link.mine, link.other, FULL_WIRE);
            }
        }
    }

    /** How a client ACTS. */
    private static final class Actor {
        private final Net net;
        private final Sha1 sha;
        private final Row message = new Row(MOST_MESSAGE);
        private final Row note = new Row(MOST_MESSAGE);
        /** Of each PIECE a bit for each BLOCK that CAME or is ASKED of anybody. */
        private final int[] busy = new int[MOST_PIECES];

        Actor(Net net, Sha1 sha) {
            this.net = net;
            this.sha = sha;
        }

        int step(int a, int b) {
            Client client = net.clientOf(a);
            Link link = net.linkOf(a, b);
            if (client == null || link == null || !link.open) {
                return NONE;
            }
            int size = link.wholeSize();
            if (size == NONE) {
                return NONE;
            }
            message.cut(0);
            message.addPart(link.wire, 0, size);
            link.wire.dropFirst(size);
            int kind = kindFor(link);
            int reason = heed(client, link, kind);
            if (kind != HELLO && kind != KEEP_ALIVE) {
                link.spoke = link.open;
            }
            if (reason != 0) {
                net.part(a, b, reason);
            }
            settle(client, a);
            return reason != 0 ? CLOSED + reason : kind;
        }

        private int kindFor(Link link) {
            if (!link.hello) {
                return HELLO;
            }
            long n = message.number(0);
            if (n > MOST_N) {
                return TOO_LONG;
            }
            if (n == 0) {
                return KEEP_ALIVE;
            }
            return message.at(4) > CANCEL ? UNKNOWN : message.at(4);
        }

        /** Does what came asks for; the reason to close the connection, or 0. */
        private int heed(Client client, Link link, int kind) {
            if (kind == TOO_LONG) {
                return BAD_SIZE;
            }
            if (kind <= CANCEL && !isLengthOf(kind, message.size() - 4)) {
                return BAD_LENGTH;
            }
            switch (kind) {
                case CHOKE:
                    link.choked = true;
                    link.askedCount = 0;
                    return 0;
                case UNCHOKE:
                    link.choked = false;
                    return 0;
                case INTERESTED:
                    link.otherInterested = true;
                    return 0;
                case NOT_INTERESTED:
                    link.otherInterested = false;
                    return 0;
                case HAVE:
                    return heedHave(link);
                case BITFIELD:
                    return heedBitfield(link);
                case REQUEST:
                    return heedRequest(client, link);
                case PIECE:
                    return heedPiece(client, link);
                case HELLO:
                    return heedHello(client, link);
                default:
                    return 0;
            }
        }

        private boolean isLengthOf(int kind, int n) {
            switch (kind) {
                case HAVE: return n == 5;
                case BITFIELD: return n == 1 + net.torrent.bitfieldBytes();
                case REQUEST: return n == 13;
                case CANCEL: return n == 13;
                case PIECE: return isWithin(n, 10, 9 + BLOCK);
                default: return n == 1;
            }
        }

        private int heedHello(Client client, Link link) {
            if (!net.torrent.isHello(message)) {
                return BAD_HELLO;
            }
            link.hello = true;
            if (client.has != 0) {
                noteBitfield(client.has);
                net.send(link, note);
            }
            return 0;
        }

        private int heedHave(Link link) {
            long p = message.number(5);
            if (!net.torrent.isPiece(p)) {
                return BAD_HAVE;
            }
            link.has |= 1L << (int) p;
            return 0;
        }

        private int heedBitfield(Link link) {
            long has = 0;
            for (int i = 0; i < 8 * (message.size() - 5); i++) {
                boolean set = (message.at(5 + i / 8) >> 7 - i % 8 & 1) != 0;
                if (set && !net.torrent.isPiece(i)) {
                    return BAD_BITFIELD;
                }
                if (set) {
                    has |= 1L << i;
                }
            }
            if (link.spoke) {
                return BAD_BITFIELD;
            }
            link.has = has;
            return 0;
        }

        private int heedRequest(Client client, Link link) {
            long p = message.number(5);
            long where = message.number(9);
            long count = message.number(13);
            if (!net.torrent.isPiece(p) || count < 1 || count > BLOCK
                || where + count > net.torrent.pieceSize((int) p)) {
                return BAD_REQUEST;
            }
            if (!link.chokes && client.hasPiece((int) p)) {
                notePiece(client, (int) p, (int) where, (int) count);
                client.sent++;
                net.send(link, note);
            }
            return 0;
        }

        private int heedPiece(Client client, Link link) {
            int code = link.takeAsked(slotOfMessage(link));
            if (code == NONE) {
                client.unasked++;
                return 0;
            }
            int p = code / CODES;
            int block = code % CODES;
            Torrent torrent = net.torrent;
            if (!torrent.isPiece(p)) {
                return 0;
            }
            client.taken++;
            client.came[p] |= 1 << block;
            writeBlock(client, torrent.pieceBegin(p) + BLOCK * block);
            if (client.came[p] != torrent.allBlocks(p)) {
                return 0;
            }
            sha.run(client.disk, torrent.pieceBegin(p), torrent.pieceSize(p));
            if (!sha.isAt(torrent.pieceHashes, SUM * p)) {
                client.came[p] = 0;
                client.failed++;
                return BAD_PIECE;
            }
            client.has |= 1L << p;
            noteHave(p);
            for (int k = 0; k < ALL; k++) {
                Link each = net.linkOf(link.mine, k);
                if (each != null && each.hello) {
                    net.send(each, note);
                }
            }
            return 0;
        }

        /** Which of what is ASKED the PIECE that came is; NONE if none. */
        private int slotOfMessage(Link link) {
            for (int slot = 0; slot < link.askedCount && slot < MOST_ASKED; slot++) {
                int p = link.asked[slot] / CODES;
                int block = link.asked[slot] % CODES;
                if (message.number(5) == p && message.number(9) == BLOCK * block
                    && message.size() - 13 == net.torrent.blockSize(p, block)) {
                    return slot;
                }
            }
            return NONE;
        }

        private void writeBlock(Client client, int begin) {
            for (int i = 13; i < message.size(); i++) {
                client.disk.change(begin + i - 13, message.at(i));
            }
        }

        private void settle(Client client, int a) {
            for (int b = 0; b < ALL; b++) {
                Link link = net.linkOf(a, b);
                // A wire that overflows ends its link, and with it what is still to do of it.
                if (link != null && link.hello) {
                    showInterest(client, link);
                }
                if (link != null && link.hello) {
                    showChoking(link);
                }
                if (link != null && link.hello) {
                    askFor(client, link);
                }
            }
        }

        private void showInterest(Client client, Link link) {
            boolean wants = (link.has & ~client.has) != 0;
            if (wants != link.interested) {
                link.interested = wants;
                notePlain(wants ? INTERESTED : NOT_INTERESTED);
                net.send(link, note);
            }
        }

        private void showChoking(Link link) {
            boolean opens = link.otherInterested && link.chokes && countUnchoked(link.mine) < MOST_UNCHOKED;
            boolean shuts = !link.otherInterested && !link.chokes;
            if (opens || shuts) {
                link.chokes = shuts;
                notePlain(shuts ? CHOKE : UNCHOKE);
                net.send(link, note);
            }
        }

        private int countUnchoked(int a) {
            int count = 0;
            for (int b = 0; b < ALL; b++) {
                Link link = net.linkOf(a, b);
                if (link != null && link.open && !link.chokes) {
                    count++;
                }
            }
            return count;
        }

        private void askFor(Client client, Link link) {
            if (!link.interested || link.choked) {
                return;
            }
            lookWhatIsBusy(client, link.mine);
            for (int n = link.askedCount; n < MOST_ASKED && link.hello; n++) {
                int p = rarestPiece(client, link);
                if (p == NONE) {
                    return;
                }
                int block = firstFree(busy[p]);
                busy[p] |= 1 << block;
                link.addAsked(CODES * p + block);
                noteRequest(p, BLOCK * block, net.torrent.blockSize(p, block));
                net.send(link, note);
            }
        }

        private static int firstFree(int blocks) {
            int block = 0;
            while (block < CODES && (blocks >> block & 1) != 0) {
                block++;
            }
            return block;
        }

        private void lookWhatIsBusy(Client client, int a) {
            System.arraycopy(client.came, 0, busy, 0, MOST_PIECES);
            for (int b = 0; b < ALL; b++) {
                Link link = net.linkOf(a, b);
                for (int i = 0; link != null && i < link.askedCount && i < MOST_ASKED; i++) {
                    int p = link.asked[i] / CODES;
                    if (net.torrent.isPiece(p)) {
                        busy[p] |= 1 << link.asked[i] % CODES;
                    }
                }
            }
        }

        /** The PIECE that is to be ASKED of the other one; NONE if there is none. */
        private int rarestPiece(Client client, Link link) {
            long wanted = link.has & ~client.has;
            int best = NONE;
            int fewest = ALL;
            for (int p = 0; p < net.torrent.pieces && p < MOST_PIECES; p++) {
                if ((wanted >>> p & 1) != 0 && busy[p] != net.torrent.allBlocks(p)) {
                    int holders = countHolders(link.mine, p);
                    if (holders < fewest) {
                        fewest = holders;
                        best = p;
                    }
                }
            }
            return best;
        }

        private int countHolders(int a, int p) {
            int count = 0;
            for (int b = 0; b < ALL; b++) {
                Link link = net.linkOf(a, b);
                if (link != null && link.hello && link.tellsOf(p)) {
                    count++;
                }
            }
            return count;
        }

        private void notePlain(int kind) {
            note.cut(0);
            note.addNumber(1);
            note.add(kind);
        }

        private void noteHave(int p) {
            note.cut(0);
            note.addNumber(5);
            note.add(HAVE);
            note.addNumber(p);
        }

        private void noteBitfield(long has) {
            int bytes = net.torrent.bitfieldBytes();
            note.cut(0);
            note.addNumber(1 + bytes);
            note.add(BITFIELD);
            int bits = 0;
            for (int p = 0; p < 8 * bytes; p++) {
                bits = bits << 1 | (int) (has >>> p & 1);
                if (p % 8 == 7) {
                    note.add(bits);
                }
            }
        }

        private void noteRequest(int p, int where, int count) {
            note.cut(0);
            note.addNumber(13);
            note.add(REQUEST);
            note.addNumber(p);
            note.addNumber(where);
            note.addNumber(count);
        }

        private void notePiece(Client client, int p, int where, int count) {
            note.cut(0);
            note.addNumber(9 + count);
            note.add(PIECE);
            note.addNumber(p);
            note.addNumber(where);
            note.addPart(client.disk, net.torrent.pieceBegin(p) + where, count);
        }
    }
}
