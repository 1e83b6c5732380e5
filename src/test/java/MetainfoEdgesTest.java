import java.util.Arrays;

/** The boundary cases of METAINFO and of promises 8 to 13: a test for each sentence that names one. */
public final class MetainfoEdgesTest {
    private static final int[] FAR = {Integer.MIN_VALUE, -2, -1, 64, 4096, Integer.MAX_VALUE};

    public static void main(String[] args) {
        fault2();
        fault3();
        fault4();
        fault5OfBothOrNeither();
        fault5OfLength();
        fault5OfFiles();
        fault5OfOneFile();
        fault5OfPath();
        fault5OfAllLengths();
        fault6();
        fault6OfMoreThan64();
        firstOfTheFaults();
        faultsAtNoPlace();
        otherKeys();
        eightOpenInMetainfo();
        metainfoOfFullTape();
        pieces();
        lastPiece();
        blocks();
        lastBlock();
        makeOfLengths();
        makeOfOtherLengths();
        makeOfPieceLengths();
        makeOf64Pieces();
        makeOfMorePieces();
        makeWritesDigits();
        makeLeavesNobody();
        loadLeavesNobody();
        loadRefused();
        placeOfTheLatest();
        torrentOfNone();
        torrentOfAnotherWhat();
        fileOfNoneSuch();
        fileOfAnotherWhat();
        sixteenFiles();
        filesOfNoBytes();
        hashOfNone();
        hashOfInfoAlone();
        hashOfTheLatest();
        filesOfTheLatest();
        Check.finish();
    }

    private static void told(String what, String tape, int fault) {
        SwarmDesk desk = new SwarmDesk();
        Check.load(desk, "i01e");
        Check.same(what + ": load", Check.load(desk, tape), fault);
        Check.same(what + ": the TAPE behind it", desk.end(1), -1);
        Check.same(what + ": place", desk.place(), -1);
        Check.same(what + ": is there METAINFO", desk.torrent(0) == -1 ? 0 : 1, fault == 0 ? 1 : 0);
    }

    private static void told(String what, Draft draft, int fault) {
        told(what, draft.text(), fault);
    }

    // "2 it is no d, or has no KEY info, or that is no d."

    private static void fault2() {
        told("a number", "i1e", 2);
        told("a STRING", "0:", 2);
        told("an l", "le", 2);
        told("METAINFO in an l", Draft.list(Draft.right().text()), 2);
        told("an empty d", "de", 2);
        for (String near : new String[] {"", "inf", "infn", "infp", "info0", "Info", "jnfo", "iofo", "ingo", "xinfo"}) {
            told("no info but " + near, "d" + Draft.text(near) + Draft.right().info() + "e", 2);
        }
        told("info in another one", "d1:a" + Draft.right().text() + "e", 2);
        for (String value : new String[] {"i0e", "0:", "le", "l" + Draft.right().info() + "e"}) {
            told("info is " + value, "d4:info" + value + "e", 2);
        }
        told("info", Draft.right(), 0);
    }

    // "3 info has no name, that is a STRING of 1 to 60 bytes."

    private static void fault3() {
        told("no name", Draft.right().without("name"), 3);
        for (String value : new String[] {"i1e", "le", "de", "l1:ae", Draft.text(0), Draft.text(61), Draft.text(1000)}) {
            told("name is " + value, Draft.right().with("name", value), 3);
        }
        told("a name of 1", Draft.right().with("name", Draft.text(1)), 0);
        told("a name of 60", Draft.right().with("name", Draft.text(60)), 0);
        told("name is in the outer d alone", "d4:info" + Draft.right().without("name").info() + "4:name1:ae", 3);
    }

    // "4 no piece length, that is a number of 32 to 1024."

    private static void fault4() {
        told("no piece length", Draft.right().without("piece length"), 4);
        for (String value : new String[] {"2:32", "le", "de", "li32ee", "i31e", "i0e", "i-1e", "i-32e", "i1025e", "i999999999e",
            "i-999999999e"}) {
            told("piece length is " + value, Draft.right().with("piece length", value), 4);
        }
        told("a piece length of 32", Draft.right().with("piece length", "i32e"), 0);
        told("a piece length of 1024", Draft.right().with("piece length", "i1024e"), 0);
    }

    // "5 both length and files, or neither"

    private static void fault5OfBothOrNeither() {
        told("neither", Draft.right().without("length"), 5);
        told("both", Draft.right().with("files", Draft.list(Draft.file(32))), 5);
        told("both, length is none", Draft.filed(Draft.file(32)).with("length", "0:"), 5);
        told("both, files are none", Draft.right().with("files", "i0e"), 5);
    }

    // "length is no number of 1 to 4096"

    private static void fault5OfLength() {
        for (String value : new String[] {"0:", "2:32", "le", "de", "i0e", "i-1e", "i-32e", "i4097e", "i999999999e"}) {
            told("length is " + value, Draft.right().with("length", value), 5);
        }
        told("a length of 1", Draft.right().with("length", "i1e"), 0);
        told("a length of 4096", sized(4096, 1024), 0);
    }

    private static Draft sized(int length, int pieceLength) {
        return Draft.right().with("length", Draft.number(length)).with("piece length", Draft.number(pieceLength))
            .with("pieces", Draft.text(20 * ((length + pieceLength - 1) / pieceLength)));
    }

    // "files is no l of 1 to 16 VALUES"

    private static void fault5OfFiles() {
        for (String value : new String[] {"i1e", "0:", "de", "le", Draft.file(32)}) {
            told("files is " + value, Draft.right().without("length").with("files", value), 5);
        }
        told("one file", Draft.filed(Draft.file(32)), 0);
        told("16 files", Draft.filed(many(16)), 0);
        told("17 files", Draft.filed(many(17)), 5);
        told("17 VALUES", Draft.filed(many(16)).with("files", Draft.list(String.join("", many(16)), "i1e")), 5);
    }

    private static String[] many(int count) {
        String[] files = new String[count];
        Arrays.fill(files, Draft.file(2));
        return files;
    }

    // "one of these is no d with a length, a number of 0 to 4096"

    private static void fault5OfOneFile() {
        for (String value : new String[] {"i32e", "0:", "le", "de"}) {
            told("a file is " + value, Draft.filed(value), 5);
            told("the last file is " + value, Draft.filed(Draft.file(32), value), 5);
        }
        told("an l that is like a file", Draft.filed("l6:lengthi32e4:pathl1:aee"), 5);
        told("a file without length", Draft.filed("d4:pathl1:aee"), 5);
        told("the last one without length", Draft.filed(Draft.file(32), "d4:pathl1:aee"), 5);
        for (String value : new String[] {"0:", "2:32", "le", "de", "i-1e", "i-4096e", "i4097e"}) {
            told("a file's length is " + value, Draft.filed(Draft.file(value, "l1:ae")), 5);
            told("the last one's length is " + value, Draft.filed(Draft.file(32), Draft.file(value, "l1:ae")), 5);
        }
        told("a file of 0 and another one", Draft.filed(Draft.file(0), Draft.file(32)), 0);
        told("a file of 4096", Draft.filed(Draft.file(4096)).with("piece length", "i1024e").with("pieces", Draft.text(80)), 0);
    }

    // "and a path, an l of 1 to 8 STRINGS of 1 to 60 bytes"

    private static void fault5OfPath() {
        told("a file without path", Draft.filed("d6:lengthi32ee"), 5);
        for (String value : new String[] {"i1e", "0:", "1:a", "3:1:a", "4:1:ae", "de", "d1:a1:be", "le", "li1ee", "llee", "ldee", "l1:ai1ee", "l1:alee", "l0:e",
            "l1:a0:e", "l0:1:ae", Draft.list(Draft.text(61)), Draft.list("1:a", Draft.text(61)), "l" + "1:a".repeat(9) + "e",
            "l" + "1:a".repeat(8) + "i1ee"}) {
            told("a path is " + value, Draft.filed(Draft.file("i32e", value)), 5);
        }
        told("a path of one STRING", Draft.filed(Draft.file("i32e", "l1:ae")), 0);
        told("a path of 8", Draft.filed(Draft.file("i32e", "l" + "1:a".repeat(8) + "e")), 0);
        told("a path of 60 bytes", Draft.filed(Draft.file("i32e", Draft.list(Draft.text(60)))), 0);
        told("a path of 8 of 60", Draft.filed(Draft.file("i32e", "l" + Draft.text(60).repeat(8) + "e")), 0);
    }

    // "all lengths together are not 1 to 4096"

    private static void fault5OfAllLengths() {
        told("together 0", Draft.filed(Draft.file(0)), 5);
        told("together 0, of 16", Draft.filed(repeat(Draft.file(0), 16)), 5);
        told("together 1", Draft.filed(Draft.file(0), Draft.file(1), Draft.file(0)), 0);
        Draft most = Draft.filed(repeat(Draft.file(256), 16)).with("piece length", "i64e").with("pieces", Draft.text(1280));
        told("together 4096", most, 0);
        told("together 4097", Draft.filed(Draft.file(4096), Draft.file(1)).with("piece length", "i1024e")
            .with("pieces", Draft.text(100)), 5);
        told("together 16 times 4096", Draft.filed(repeat(Draft.file(4096), 16)), 5);
    }

    private static String[] repeat(String file, int count) {
        String[] files = new String[count];
        Arrays.fill(files, file);
        return files;
    }

    // "6 no pieces, that is a STRING of 20 bytes for each piece."

    private static void fault6() {
        told("no pieces", Draft.right().without("pieces"), 6);
        for (String value : new String[] {"i20e", "le", "de", Draft.list(Draft.text(20)), Draft.text(0), Draft.text(19),
            Draft.text(21), Draft.text(40)}) {
            told("pieces are " + value, Draft.right().with("pieces", value), 6);
        }
        told("one piece of 32", sized(32, 32), 0);
        told("33 with one sum", sized(33, 32).with("pieces", Draft.text(20)), 6);
        told("33 with two sums", sized(33, 32).with("pieces", Draft.text(40)), 0);
        told("33 with three sums", sized(33, 32).with("pieces", Draft.text(60)), 6);
        told("64 with two sums", sized(64, 32).with("pieces", Draft.text(40)), 0);
        told("64 with three sums", sized(64, 32).with("pieces", Draft.text(60)), 6);
        told("4096 with 63 sums", sized(4096, 64).with("pieces", Draft.text(1260)), 6);
    }

    // "PIECES .. more than 64: FAULT 6."

    private static void fault6OfMoreThan64() {
        told("64 of 32", sized(2048, 32), 0);
        told("65 of 32", sized(2049, 32), 6);
        told("64 of 63", sized(64 * 63, 63), 0);
        told("65 of 63", sized(64 * 63 + 1, 63), 6);
        told("64 of 64", sized(4096, 64), 0);
        told("128 of 32", sized(4096, 32), 6);
        told("65 of 32 in files", Draft.filed(Draft.file(2048), Draft.file(1)).with("pieces", Draft.text(1300)), 6);
    }

    // "If there is none the first of these that is so"

    private static void firstOfTheFaults() {
        told("1 ahead of all", new String[] {"name", "piece length", "length", "pieces"}, 3);
        told("without three", new String[] {"piece length", "length", "pieces"}, 4);
        told("without two", new String[] {"length", "pieces"}, 5);
        told("without one", new String[] {"pieces"}, 6);
        told("without none", new String[] {}, 0);
        SwarmDesk desk = new SwarmDesk();
        Check.same("FAULT 1 is the first", Check.load(desk, "d4:infoi1e"), 1);
        Check.same("at its place", desk.place(), 10);
    }

    private static void told(String what, String[] without, int fault) {
        Draft draft = Draft.right();
        for (String key : without) {
            draft.without(key);
        }
        told(what, draft, fault);
    }

    // "all at place NONE"

    private static void faultsAtNoPlace() {
        String[] tapes = {"le", Draft.right().without("name").text(), Draft.right().without("piece length").text(),
            Draft.right().without("length").text(), Draft.right().without("pieces").text()};
        SwarmDesk desk = new SwarmDesk();
        for (int i = 0; i < tapes.length; i++) {
            Check.same("a FAULT 1", Check.load(desk, "l:"), 1);
            Check.same("its place", desk.place(), 1);
            Check.same("another FAULT", Check.load(desk, tapes[i]), 2 + i);
            Check.same("at no place", desk.place(), -1);
        }
    }

    // "(Other KEYS may be there, with any VALUES.)"

    private static void otherKeys() {
        for (String value : new String[] {"i0e", "i-999999999e", "0:", "le", "de", "d4:infodee", "lllleeee"}) {
            told("other KEYS in info, " + value, Draft.right().with("", value).with("a", value).with("lengti", value)
                .with("piece", value).with("zz", value), 0);
            String info = Draft.right().info();
            told("other KEYS around it, " + value, "d0:" + value + "4:infn" + value + "4:info" + info + "5:info0" + value + "e", 0);
            String file = "d0:" + value + "6:lengthi32e4:pathl1:ae1:z" + value + "e";
            told("other KEYS in a file, " + value, Draft.filed(file), 0);
        }
    }

    /** The d of METAINFO and that of info are open, too. */
    private static void eightOpenInMetainfo() {
        told("8 open in info", Draft.right().with("a", "l".repeat(6) + "e".repeat(6)), 0);
        told("8 open in a file", Draft.filed("d1:alllleeee6:lengthi32e4:pathl1:aee"), 0);
        SwarmDesk desk = new SwarmDesk();
        Check.same("9 open in info", Check.load(desk, Draft.right().with("a", "l".repeat(7) + "e".repeat(7)).text()), 1);
        Check.same("its place", desk.place(), "d4:infod1:a".length() + 6);
        Check.same("9 open in a file", Check.load(desk, Draft.filed("d1:allllleeeee6:lengthi32e4:pathl1:aee").text()), 1);
        Check.same("its place", desk.place(), "d4:infod5:filesld1:a".length() + 4);
    }

    // "THE TAPE has at most 6000 bytes. METAINFO is one VALUE, all of the TAPE."

    private static void metainfoOfFullTape() {
        String front = "d4:info" + Draft.right().info() + "1:z";
        String tape = front + Draft.text(6000 - front.length() - 5 - 1) + "e";
        Check.same("so many bytes", tape.length(), 6000);
        told("METAINFO of 6000 bytes", tape, 0);
        told("METAINFO of 5999 bytes", front + Draft.text(5999 - front.length() - 5 - 1) + "e", 0);
    }

    // "PIECES are of PIECE LENGTH bytes each, the last one of what is left"

    private static void pieces() {
        int[][] cases = {{1, 32, 1}, {31, 32, 1}, {32, 32, 1}, {33, 32, 2}, {64, 32, 2}, {2047, 32, 64}, {2048, 32, 64},
            {1023, 1024, 1}, {1024, 1024, 1}, {1025, 1024, 2}, {4095, 1024, 4}, {4096, 1024, 4}, {4096, 64, 64}, {4096, 65, 64}};
        for (int[] c : cases) {
            SwarmDesk desk = Check.made(new byte[c[0]], c[1]);
            Check.same("PIECES made of " + Arrays.toString(c), desk.torrent(2), c[2]);
            Check.load(desk, sized(c[0], c[1]).text());
            Check.same("PIECES loaded of " + Arrays.toString(c), desk.torrent(2), c[2]);
        }
    }

    private static void lastPiece() {
        for (int length : new int[] {32, 33, 63, 64}) {
            SwarmDesk desk = Check.made(Check.content(length), 32);
            desk.client(0, true);
            desk.connect(0, 4);
            desk.hear(0);
            Check.say(desk, 0, Check.hello(Check.hash(desk)), Check.message(2));
            desk.pump(2);
            int last = (length - 1) / 32;
            int left = length - 32 * last;
            Check.say(desk, 0, Check.request(last, left - 1, 1));
            Check.same("the last byte of " + length, desk.act(0, 4), 6);
            Check.say(desk, 0, Check.request(last, left, 1));
            Check.same("behind the last byte of " + length, desk.act(0, 4), 26);
        }
    }

    // "BLOCKS are of 64 bytes, from a PIECE's beginning on, the last one of what is left."

    private static void blocks() {
        int[][] cases = {{32, 32, 1}, {63, 63, 1}, {64, 64, 1}, {65, 65, 2}, {127, 127, 2}, {128, 128, 2}, {129, 129, 3},
            {1023, 1023, 16}, {1024, 1024, 16}, {1025, 1024, 17}, {961, 1024, 16}, {960, 1024, 15}, {130, 65, 4}, {131, 65, 5}};
        for (int[] c : cases) {
            SwarmDesk desk = Check.made(Check.content(c[0]), c[1]);
            desk.client(0, true);
            desk.client(1, false);
            desk.connect(0, 1);
            desk.pump(2000);
            Check.same("BLOCKS of " + Arrays.toString(c), desk.count(1, 1), c[2]);
            Check.same("all came of " + Arrays.toString(c), desk.count(1, 0), desk.torrent(2));
        }
    }

    private static void lastBlock() {
        int[][] cases = {{63, 0, 63}, {64, 0, 64}, {65, 64, 1}, {127, 64, 63}, {128, 64, 64}, {129, 128, 1}, {192, 128, 64}};
        for (int[] c : cases) {
            SwarmDesk desk = Check.greeted(Check.content(c[0]), 256, false);
            Check.say(desk, 0, Check.message(1), Check.message(4, Check.number(0)));
            desk.pump(2);
            byte[] heard = Check.hear(desk, 0);
            Check.sameBytes("the last BLOCK of " + c[0], Arrays.copyOfRange(heard, heard.length - 17, heard.length),
                Check.request(0, c[1], c[2]));
        }
    }

    // Promise 8: "The TAPE is taken: 1 to 4096 bytes, the CONTENT"

    private static byte[] dueInfo(byte[] content, int pieceLength) {
        byte[] sums = Check.pieceSums(content, pieceLength);
        return Check.join(Check.text("d6:lengthi" + content.length + "e4:name1:a12:piece lengthi" + pieceLength + "e6:pieces"
            + sums.length + ":"), sums, Check.text("e"));
    }

    private static void makes(int length, int pieceLength) {
        String what = "make of " + length + ", " + pieceLength;
        byte[] content = Check.content(length);
        byte[] due = Check.join(Check.text("d4:info"), dueInfo(content, pieceLength), Check.text("e"));
        SwarmDesk desk = new SwarmDesk();
        Check.tape(desk, content);
        Check.same(what, desk.make(pieceLength), due.length);
        Check.same(what + ": the TAPE behind it", desk.end(1), -1);
        Check.same(what + ": the first of OUT", desk.out(0), 'd');
        Check.same(what + ": the last of OUT", desk.out(due.length - 1), 'e');
        Check.same(what + ": behind OUT", desk.out(due.length), -1);
        Check.same(what + ": OUT taken", desk.take(), due.length);
        Check.tapeIs(what + ": OUT", desk, due);
        Check.same(what + ": LENGTH", desk.torrent(0), length);
        Check.same(what + ": PIECE LENGTH", desk.torrent(1), pieceLength);
        Check.same(what + ": files", desk.torrent(3), 0);
        desk.client(3, true);
        Check.same(what + ": the first byte of the CONTENT", desk.disk(3, 0), content[0] & 255);
        Check.same(what + ": the last byte of the CONTENT", desk.disk(3, length - 1), content[length - 1] & 255);
    }

    /** NONE, and all else stays: METAINFO, OUT, CONTENT and a CLIENT. */
    private static void makesNot(int length, int pieceLength) {
        String what = "make of " + length + ", " + pieceLength;
        byte[] before = Check.content(100);
        SwarmDesk desk = Check.made(before, 50);
        desk.client(1, true);
        Check.tape(desk, Check.content(length));
        Check.same(what, desk.make(pieceLength), -1);
        Check.same(what + ": the TAPE behind it", desk.end(1), -1);
        Check.same(what + ": LENGTH", desk.torrent(0), 100);
        Check.same(what + ": PIECE LENGTH", desk.torrent(1), 50);
        Check.same(what + ": PIECES", desk.torrent(2), 2);
        Check.same(what + ": the CLIENT", desk.count(1, 0), 2);
        desk.client(2, true);
        Check.same(what + ": the CONTENT", desk.disk(2, 99), before[99] & 255);
        desk.take();
        Check.tapeIs(what + ": OUT", desk, Check.join(Check.text("d4:info"), dueInfo(before, 50), Check.text("e")));
        Check.sameBytes(what + ": HASH", Check.hash(desk), Check.sha(dueInfo(before, 50)));
    }

    private static void makeOfLengths() {
        makes(1, 1024);
        makes(2, 1024);
        makes(4095, 1024);
        makes(4096, 1024);
    }

    // "NONE, and all else stays: it has other lengths"

    private static void makeOfOtherLengths() {
        makesNot(0, 1024);
        makesNot(4097, 1024);
        makesNot(6000, 1024);
    }

    // "PIECE LENGTH is not 32 .. 1024"

    private static void makeOfPieceLengths() {
        makes(100, 32);
        makes(100, 33);
        makes(100, 1023);
        makes(100, 1024);
        for (int pieceLength : new int[] {31, 1, 0, -1, -32, Integer.MIN_VALUE, 1025, 2048, 0x4000000, 0x4000020, Integer.MAX_VALUE}) {
            makesNot(100, pieceLength);
        }
    }

    // "or there would be more than 64 PIECES"

    private static void makeOf64Pieces() {
        makes(2017, 32);
        makes(2048, 32);
        makes(64 * 63, 63);
        makes(4096, 64);
    }

    private static void makeOfMorePieces() {
        makesNot(2049, 32);
        makesNot(64 * 63 + 1, 63);
        makesNot(4096, 63);
        makesNot(4096, 32);
    }

    // "LENGTH, e4:name1:a12:piece lengthi, PIECE LENGTH, e6:pieces, the number of bytes"

    private static void makeWritesDigits() {
        for (int length : new int[] {9, 10, 99, 100, 101, 999, 1000, 1001}) {
            makes(length, 99);
            makes(length, 100);
            makes(length, 999);
            makes(length, 1000);
        }
        // 4, 5, 49 and 50 PIECES: 80, 100, 980 and 1000 bytes.
        for (int pieces : new int[] {4, 5, 49, 50}) {
            makes(32 * pieces, 32);
        }
    }

    // "No CLIENT is there then."

    private static void makeLeavesNobody() {
        SwarmDesk desk = busy();
        Check.tape(desk, Check.content(40));
        desk.make(32);
        nobody(desk);
        Check.yes("a full CLIENT of the new CONTENT", desk.client(0, true));
        Check.same("its disk", desk.disk(0, 39), Check.content(40)[39] & 255);
        Check.same("and no more of it", desk.disk(0, 40), -1);
    }

    private static SwarmDesk busy() {
        SwarmDesk desk = Check.made(Check.content(200), 64);
        for (int k = 0; k < 4; k++) {
            desk.client(k, k == 0);
            desk.connect(k, 4);
            desk.connect(k, 0);
        }
        desk.pump(20);
        return desk;
    }

    private static void nobody(SwarmDesk desk) {
        for (int k = 0; k < 4; k++) {
            Check.same("no CLIENT " + k, desk.count(k, 0), -1);
            Check.no("no CONNECTION with 4 of " + k, desk.close(k, 4));
            Check.no("no CONNECTION with 0 of " + k, desk.close(k, 0));
            Check.same("nothing to hear from " + k, desk.hear(k), -1);
            Check.same("nothing to act on for " + k, desk.act(k, 0), -1);
        }
        Check.same("nothing to pump", desk.pump(2000), 0);
    }

    // Promise 9: "0: it is that, there is no CONTENT and no CLIENT then."

    private static void loadLeavesNobody() {
        SwarmDesk desk = busy();
        Check.same("load", Check.load(desk, Draft.right().text()), 0);
        nobody(desk);
        Check.no("no CONTENT for a full CLIENT", desk.client(0, true));
        Check.yes("a CLIENT with nothing", desk.client(0, false));
        Check.same("its disk", desk.disk(0, 31), 0);
        Check.same("and no more of it", desk.disk(0, 32), -1);
    }

    // "Else its FAULT, and what there was stays."

    private static void loadRefused() {
        String[] tapes = {"", "de", Draft.right().without("name").text(), Draft.right().without("piece length").text(),
            Draft.right().with("length", "i4097e").text(), Draft.right().with("pieces", Draft.text(21)).text()};
        for (int i = 0; i < tapes.length; i++) {
            SwarmDesk desk = Check.made(Check.content(100), 50);
            desk.client(1, true);
            desk.connect(1, 4);
            Check.same("load", Check.load(desk, tapes[i]), 1 + i);
            Check.same("the TAPE behind it", desk.end(1), -1);
            Check.same("LENGTH", desk.torrent(0), 100);
            Check.same("PIECE LENGTH", desk.torrent(1), 50);
            Check.same("PIECES", desk.torrent(2), 2);
            Check.same("files", desk.torrent(3), 0);
            Check.same("the CLIENT", desk.count(1, 0), 2);
            Check.same("its CONNECTION", desk.known(1, 4, 0), 1);
            Check.yes("the CONTENT", desk.client(2, true));
            Check.sameBytes("HASH", Check.hash(desk), Check.sha(dueInfo(Check.content(100), 50)));
        }
    }

    // Promise 10: "The place of the FAULT that the latest load() told; NONE without."

    private static void placeOfTheLatest() {
        SwarmDesk desk = new SwarmDesk();
        Check.same("place without a load", desk.place(), -1);
        Check.load(desk, "");
        Check.same("place 0", desk.place(), 0);
        Check.same("place 0, asked again", desk.place(), 0);
        Check.load(desk, "l");
        Check.same("place of the latest", desk.place(), 1);
        Check.tape(desk, Check.content(40));
        desk.make(32);
        Check.same("place behind make", desk.place(), 1);
        Check.load(desk, "de");
        Check.same("place of a FAULT without one", desk.place(), -1);
        Check.load(desk, "lli");
        Check.same("place of the next one", desk.place(), 3);
        Check.load(desk, Draft.right().text());
        Check.same("place without a FAULT", desk.place(), -1);
    }

    // Promise 11: "NONE without METAINFO, or for another what."

    private static void torrentOfNone() {
        SwarmDesk desk = new SwarmDesk();
        Check.load(desk, Draft.right().with("pieces", "0:").text());
        for (int what = 0; what < 4; what++) {
            Check.same("torrent without METAINFO, " + what, desk.torrent(what), -1);
        }
    }

    private static void torrentOfAnotherWhat() {
        SwarmDesk desk = Check.made(Check.content(40), 32);
        Check.same("torrent 4", desk.torrent(4), -1);
        for (int far : FAR) {
            Check.same("torrent " + far, desk.torrent(far), -1);
        }
    }

    // Promise 12: "NONE if there is none such, or for another what."

    private static void fileOfNoneSuch() {
        for (int what = 0; what < 3; what++) {
            Check.same("file without METAINFO", new SwarmDesk().file(0, what), -1);
            Check.same("file of a length", Check.made(Check.content(40), 32).file(0, what), -1);
            SwarmDesk desk = new SwarmDesk();
            Check.load(desk, Draft.filed(Draft.file(2), Draft.file(3)).text());
            Check.same("file 2 of two", desk.file(2, what), -1);
            for (int far : FAR) {
                Check.same("file " + far, desk.file(far, what), -1);
            }
            Check.load(desk, Draft.right().text());
            Check.same("file of a length behind files", desk.file(0, what), -1);
            Check.load(desk, Draft.filed(Draft.file(2)).text());
            Check.same("file 1 of one, behind two", desk.file(1, what), -1);
        }
    }

    private static void fileOfAnotherWhat() {
        SwarmDesk desk = new SwarmDesk();
        Check.load(desk, Draft.filed(Draft.file(2), Draft.file(3)).text());
        Check.same("what 3", desk.file(1, 3), -1);
        for (int far : FAR) {
            Check.same("what " + far, desk.file(1, far), -1);
        }
    }

    private static void sixteenFiles() {
        SwarmDesk desk = new SwarmDesk();
        String[] files = new String[16];
        for (int k = 0; k < 16; k++) {
            files[k] = Draft.file(Draft.number(k), "l" + "1:p".repeat(1 + k % 8) + "e");
        }
        Check.same("load", Check.load(desk, Draft.filed(files).with("pieces", Draft.text(80)).text()), 0);
        Check.same("LENGTH", desk.torrent(0), 120);
        Check.same("files", desk.torrent(3), 16);
        for (int k = 0; k < 16; k++) {
            Check.same("length of file " + k, desk.file(k, 0), k);
            Check.same("beginning of file " + k, desk.file(k, 1), k * (k - 1) / 2);
            Check.same("path of file " + k, desk.file(k, 2), 1 + k % 8);
        }
        Check.same("file 16", desk.file(16, 0), -1);
    }

    private static void filesOfNoBytes() {
        SwarmDesk desk = new SwarmDesk();
        Check.load(desk, Draft.filed(Draft.file(0), Draft.file(32), Draft.file(0)).text());
        int[] lengths = {0, 32, 0};
        int[] begins = {0, 0, 32};
        for (int k = 0; k < 3; k++) {
            Check.same("length of file " + k, desk.file(k, 0), lengths[k]);
            Check.same("beginning of file " + k, desk.file(k, 1), begins[k]);
        }
    }

    // Promise 13: "OUT is the HASH: 20; NONE, and OUT stays, without METAINFO."

    private static void hashOfNone() {
        SwarmDesk desk = new SwarmDesk();
        Check.same("hash with an empty OUT", desk.hash(), -1);
        Check.same("OUT is empty still", desk.out(0), -1);
        desk.digest();
        Check.same("hash without METAINFO", desk.hash(), -1);
        Check.sameBytes("OUT stays", Check.out(desk, 20), Check.sha(new byte[0]));
        Check.load(desk, "de");
        Check.same("hash behind a FAULT", desk.hash(), -1);
        Check.sameBytes("OUT stays", Check.out(desk, 20), Check.sha(new byte[0]));
    }

    /** The info-hash is that of info's own bytes, whatever stands around them. */
    private static void hashOfInfoAlone() {
        String info = Draft.right().info();
        for (String tape : new String[] {"d4:info" + info + "e", "d1:ai1e4:info" + info + "e", "d4:info" + info + "1:zdee",
            "d1:ad4:infodee4:info" + info + "e"}) {
            SwarmDesk desk = new SwarmDesk();
            Check.same("load", Check.load(desk, tape), 0);
            Check.same("hash", desk.hash(), 20);
            Check.sameBytes("its bytes", Check.out(desk, 20), Check.sha(Check.text(info)));
        }
    }

    /** Nothing of METAINFO that was there, or was refused, is left in the next one. */
    private static void hashOfTheLatest() {
        SwarmDesk desk = new SwarmDesk();
        for (int n = 1; n <= 6; n++) {
            String info = Draft.right().with("name", Draft.text(n)).info();
            Check.same("load", Check.load(desk, "d4:info" + info + "e"), 0);
            Check.sameBytes("HASH of METAINFO " + n, Check.hash(desk), Check.sha(Check.text(info)));
            Check.load(desk, Draft.right().with("name", Draft.text(60)).without("pieces").text());
            Check.sameBytes("HASH behind a FAULT", Check.hash(desk), Check.sha(Check.text(info)));
        }
    }

    private static void filesOfTheLatest() {
        SwarmDesk desk = new SwarmDesk();
        for (int n = 0; n < 4; n++) {
            Check.same("two files", Check.load(desk, Draft.filed(Draft.file(5), Draft.file(6)).text()), 0);
            Check.same("LENGTH", desk.torrent(0), 11);
            Check.same("files", desk.torrent(3), 2);
            Check.same("a FAULT of files", Check.load(desk, Draft.filed(Draft.file(7), Draft.file(8), "i1e").text()), 5);
            Check.same("LENGTH stays", desk.torrent(0), 11);
            Check.same("no files", Check.load(desk, Draft.right().text()), 0);
            Check.same("LENGTH of the latest", desk.torrent(0), 32);
            Check.same("no files are told", desk.torrent(3), 0);
            Check.same("file 0", desk.file(0, 0), -1);
            Check.same("no VALUE", Check.load(desk, Draft.filed(new String[0]).text()), 5);
            Check.same("one file", Check.load(desk, Draft.filed(Draft.file(9)).text()), 0);
            Check.same("LENGTH of it", desk.torrent(0), 9);
            Check.same("it alone", desk.torrent(3), 1);
        }
    }
}
