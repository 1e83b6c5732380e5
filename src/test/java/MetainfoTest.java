/** Promises 8 to 13, and part 1 of the terms. */
public final class MetainfoTest {
    private static final String PIECE_1 = "6:pieces20:01234567890123456789";

    public static void main(String[] args) {
        make();
        makeRefused();
        places();
        depth();
        rising();
        faultsOfShape();
        faultsOfLength();
        faultsOfFiles();
        faultsOfPieces();
        order();
        whatStays();
        files();
        hash();
        Check.finish();
    }

    private static void make() {
        int[][] cases = {{1, 32}, {70, 64}, {2048, 32}, {4096, 64}, {4096, 1024}, {4095, 65}, {33, 32}, {64, 32}, {1000, 1024}};
        for (int[] c : cases) {
            byte[] content = Check.content(c[0]);
            SwarmDesk desk = new SwarmDesk();
            Check.tape(desk, content);
            byte[] sums = Check.pieceSums(content, c[1]);
            byte[] info = Check.join(Check.text("d6:lengthi" + c[0] + "e4:name1:a12:piece lengthi" + c[1] + "e6:pieces"
                + sums.length + ":"), sums, Check.text("e"));
            byte[] due = Check.join(Check.text("d4:info"), info, Check.text("e"));
            Check.same("make", desk.make(c[1]), due.length);
            Check.same("the tape behind make", desk.end(1), -1);
            for (int i = 0; i < 70; i++) {
                Check.same("what make wrote at " + i, desk.out(i), due[i] & 255);
            }
            Check.same("all that make wrote", desk.take(), due.length);
            desk.digest();
            Check.sameBytes("its sum", Check.out(desk, 20), Check.sha(due));
            Check.same("length", desk.torrent(0), c[0]);
            Check.same("piece length", desk.torrent(1), c[1]);
            Check.same("pieces", desk.torrent(2), sums.length / 20);
            Check.same("files", desk.torrent(3), 0);
            Check.same("another what", desk.torrent(4), -1);
            Check.same("another what", desk.torrent(-1), -1);
            Check.same("file of a length", desk.file(0, 0), -1);
            Check.sameBytes("hash", Check.hash(desk), Check.sha(info));
        }
    }

    private static void makeRefused() {
        int[][] cases = {{0, 64}, {4097, 1024}, {64, 31}, {64, 1025}, {64, 0}, {64, -64}, {2049, 32}, {4096, 63},
            {64, Integer.MIN_VALUE}, {64, Integer.MAX_VALUE}};
        for (int[] c : cases) {
            SwarmDesk desk = Check.made(Check.content(100), 50);
            desk.client(1, true);
            Check.tape(desk, Check.content(c[0]));
            Check.same("make refused", desk.make(c[1]), -1);
            Check.same("the tape behind make refused", desk.end(1), -1);
            Check.same("length stays", desk.torrent(0), 100);
            Check.same("piece length stays", desk.torrent(1), 50);
            Check.same("out stays", desk.out(0), 'd');
            Check.same("the client stays", desk.count(1, 0), 2);
            Check.yes("content stays", desk.client(2, true));
            Check.same("disk of what stays", desk.disk(2, 99), Check.content(100)[99] & 255);
        }
        SwarmDesk desk = Check.made(Check.content(100), 50);
        desk.client(1, true);
        desk.client(2, true);
        desk.connect(1, 2);
        desk.connect(1, 4);
        Check.tape(desk, Check.content(64));
        desk.make(32);
        Check.same("no client behind make", desk.count(1, 0), -1);
        Check.no("no connection behind make", desk.close(1, 2));
        Check.same("nothing to hear behind make", desk.hear(1), -1);
        Check.yes("a client of the new one", desk.client(1, true));
        Check.same("not connected", desk.known(1, 2, 0), 0);
        Check.same("its wire", desk.known(1, 4, 8), 0);
        Check.same("disk of the new one", desk.disk(1, 64), -1);
    }

    private static void fault(String tape, int place) {
        SwarmDesk desk = new SwarmDesk();
        Check.same("load of " + tape, Check.load(desk, tape), 1);
        Check.same("place of " + tape, desk.place(), place);
        Check.same("the tape behind load", desk.end(1), -1);
    }

    private static void sound(String tape) {
        SwarmDesk desk = new SwarmDesk();
        Check.same("load of " + tape, Check.load(desk, tape), 2);
        Check.same("place of " + tape, desk.place(), -1);
    }

    private static void places() {
        String[] faults = {"", "i", "ie", "i-", "i-e", "i--1e", "i-0e", "i-01e", "i01e", "i00e", "i1", "i1x", "i1234567890e",
            "i-1234567890e", "i123456789", "1", "1x", "1:", "01:a", "00:", "12345:a", "1234", "9:12345678", "-1:a", "l", "li1e",
            "li1ex", "lx", "d", "d1:a", "d1:ae", "di1e1:ae", "dle", "d1:ai1e", "d1:ai1ei", "lee", "i1ee", "0:e", "e", "x", "l1:",
            "l4:abe", "d3:ab", "l0:9:e", ":", "i1 e", "i+1e", "d01:ai1ee", "d:", "l12345:e", "d1:ad1:bi1ee", "9999:"};
        int[] due = {0, 1, 1, 2, 2, 2, 2, 2, 2, 2, 2, 2, 10, 11, 10, 1, 1, 0, 1, 1, 4, 4, 0, 0, 1, 4, 4, 1, 1, 4, 4, 1, 1, 7,
            7, 2, 3, 2, 0, 0, 1, 1, 1, 3, 0, 2, 1, 2, 1, 5, 12, 0};
        Check.same("as many places as faults", faults.length, due.length);
        for (int i = 0; i < faults.length; i++) {
            fault(faults[i], due[i]);
        }
        String[] right = {"i0e", "i-1e", "i123456789e", "i-123456789e", "0:", "1:a", "le", "de", "l0:e", "d0:0:e", "d0:i1e1:ai1ee",
            "lllllllleeeeeeee", "ldedei1e3:abce", "3:e:i"};
        for (String tape : right) {
            sound(tape);
        }
        sound("1000:" + "x".repeat(1000));
        fault("1001:" + "x".repeat(1000), 0);
        fault("999:" + "x".repeat(1000), 4 + 999);
        sound("5995:" + "x".repeat(5995));
        fault("l5994:" + "x".repeat(5994), 6000);
    }

    private static void depth() {
        sound("l".repeat(8) + "e".repeat(8));
        fault("l".repeat(9) + "e".repeat(9), 8);
        sound("d1:a".repeat(8) + "i1e" + "e".repeat(8));
        fault("d1:a".repeat(8) + "de" + "e".repeat(8), 32);
        fault("d1:a".repeat(8) + "le" + "e".repeat(8), 32);
        sound("l" + "llllllleeeeeee".repeat(3) + "e");
        fault("l" + "llllllleeeeeee" + "llllllllee", 1 + 14 + 7);
        sound("llllllll" + "i1e2:ab" + "eeeeeeee");
    }

    private static void rising() {
        fault("d1:ai1e1:ai1ee", 7);
        fault("d1:bi1e1:ai1ee", 7);
        fault("d2:abi1e1:ai1ee", 8);
        fault("d1:a0:0:0:e", 6);
        fault("d1:ali1ee1:bi1e1:\u0001i1ee", 15);
        sound("d1:ai1e2:aai1ee");
        sound("d1:ai1e2:a\u0000i1ee");
        sound("d1:\u007fi1e1:\u0080i1e1:\u00ffi1ee");
        fault("d1:\u0080i1e1:\u007fi1ee", 7);
        sound("d2:abi1e1:bi1ee");
        sound("d9:abcdefghii1e10:abcdefghiji1ee");
        sound("d1:ad1:bi1ee1:bd1:ai1eee");
        fault("d1:ad1:bi1e1:ai1eee", 11);
    }

    private static String torrent(String info) {
        return "d4:infod" + info + "ee";
    }

    private static void told(String info, int fault) {
        SwarmDesk desk = new SwarmDesk();
        Check.same("load of " + info, Check.load(desk, torrent(info)), fault);
        Check.same("place of " + info, desk.place(), -1);
        Check.same("torrent of " + info, desk.torrent(0) == -1 ? 1 : 0, fault == 0 ? 0 : 1);
    }

    private static String named(String name) {
        return "6:lengthi32e4:name" + name + "12:piece lengthi32e" + PIECE_1;
    }

    private static void faultsOfShape() {
        sound("d3:infdee");
        sound("d4:infoi1ee");
        sound("d4:infolee");
        sound("d4:info0:e");
        sound("d4:infpdee");
        sound("d5:info1dee");
        sound("d1:xd4:infod" + named("1:a") + "eee");
        told("", 3);
        told("6:lengthi32e12:piece lengthi32e" + PIECE_1, 3);
        told(named("0:"), 3);
        told(named("i1e"), 3);
        told(named("l1:ae"), 3);
        told(named("61:" + "n".repeat(61)), 3);
        told(named("60:" + "n".repeat(60)), 0);
        told(named("1:n"), 0);
        told("6:lengthi32e4:name1:a" + PIECE_1, 4);
        for (String bad : new String[] {"i31e", "i1025e", "i0e", "i-32e", "2:32", "le", "i999999999e"}) {
            told("6:lengthi32e4:name1:a12:piece length" + bad + PIECE_1, 4);
        }
        told("6:lengthi32e4:name1:a12:piece lengthi1024e" + PIECE_1, 0);
        SwarmDesk desk = new SwarmDesk();
        Check.same("other keys", Check.load(desk, "d1:ali1ee4:infod1:ad1:bi-5ee" + named("1:a") + "1:zlee1:zdee"), 0);
    }

    private static void faultsOfLength() {
        told("4:name1:a12:piece lengthi32e" + PIECE_1, 5);
        String file = "5:filesld6:lengthi32e4:pathl1:aeee";
        told(file + "6:lengthi32e4:name1:a12:piece lengthi32e" + PIECE_1, 5);
        told("5:filesle6:lengthi32e4:name1:a12:piece lengthi32e" + PIECE_1, 5);
        for (String bad : new String[] {"i0e", "i4097e", "i-1e", "1:1", "le", "de"}) {
            told("6:length" + bad + "4:name1:a12:piece lengthi1024e" + PIECE_1, 5);
        }
        told("6:lengthi1e4:name1:a12:piece lengthi1024e" + PIECE_1, 0);
        told("6:lengthi4096e4:name1:a12:piece lengthi1024e6:pieces80:" + "x".repeat(80), 0);
    }

    private static void filed(String files, int fault) {
        told("5:files" + files + "4:name1:a12:piece lengthi32e" + PIECE_1, fault);
    }

    private static void faultsOfFiles() {
        String one = "d6:lengthi32e4:pathl1:aee";
        String none = "d6:lengthi0e4:pathl1:aee";
        filed("l" + one + "e", 0);
        filed(one, 5);
        filed("i32e", 5);
        filed("0:", 5);
        filed("le", 5);
        filed("l" + none.repeat(15) + one + "e", 0);
        filed("l" + none.repeat(16) + one + "e", 5);
        filed("l" + one + none.repeat(16) + "e", 5);
        filed("l" + none + "e", 5);
        filed("l" + one + "i1ee", 5);
        filed("l" + one + "lee", 5);
        filed("ld4:pathl1:aeee", 5);
        filed("ld6:lengthi32eee", 5);
        filed("ld6:length2:324:pathl1:aeee", 5);
        filed("ld6:lengthi-1e4:pathl1:aee" + one + "e", 5);
        filed("ld6:lengthi4097e4:pathl1:aeee", 5);
        filed("ld6:lengthi32e4:path1:aee", 5);
        filed("ld6:lengthi32e4:pathleee", 5);
        filed("ld6:lengthi32e4:pathl0:eee", 5);
        filed("ld6:lengthi32e4:pathl1:a0:eee", 5);
        filed("ld6:lengthi32e4:pathl1:ai1eeee", 5);
        filed("ld6:lengthi32e4:pathl61:" + "p".repeat(61) + "eee", 5);
        filed("ld6:lengthi32e4:pathl60:" + "p".repeat(60) + "eee", 0);
        filed("ld6:lengthi32e4:pathl" + "1:p".repeat(8) + "eee", 0);
        filed("ld6:lengthi32e4:pathl" + "1:p".repeat(9) + "eee", 5);
        filed("ld1:ali1ee6:lengthi32e4:pathl1:pe1:zdeee", 0);
        filed("ld6:lengthi4096e4:pathl1:aeed6:lengthi1e4:pathl1:aeee", 5);
    }

    private static void faultsOfPieces() {
        String front = "6:lengthi33e4:name1:a12:piece lengthi32e";
        told(front, 6);
        told(front + PIECE_1, 6);
        told(front + "6:piecesi40e", 6);
        told(front + "6:piecesle", 6);
        told(front + "6:pieces39:" + "x".repeat(39), 6);
        told(front + "6:pieces41:" + "x".repeat(41), 6);
        told(front + "6:pieces40:" + "x".repeat(40), 0);
        told("6:lengthi2048e4:name1:a12:piece lengthi32e6:pieces1280:" + "x".repeat(1280), 0);
        told("6:lengthi2049e4:name1:a12:piece lengthi32e6:pieces1300:" + "x".repeat(1300), 6);
        told("6:lengthi4096e4:name1:a12:piece lengthi32e6:pieces2560:" + "x".repeat(2560), 6);
    }

    private static void order() {
        told("4:name0:", 3);
        told("4:name1:a", 4);
        told("4:name1:a12:piece lengthi32e", 5);
        told("6:lengthi5e4:name1:a12:piece lengthi32e", 6);
        fault("d4:infode", 9);
    }

    private static void whatStays() {
        SwarmDesk desk = Check.made(Check.content(100), 50);
        desk.client(0, true);
        desk.client(1, false);
        desk.connect(0, 1);
        byte[] hash = Check.hash(desk);
        for (String bad : new String[] {"x", "de", torrent(""), torrent("4:name1:a"), torrent("4:name1:a12:piece lengthi32e"),
            torrent("6:lengthi5e4:name1:a12:piece lengthi32e"),
            torrent("5:filesld6:lengthi64e4:pathl1:aeee4:name1:a12:piece lengthi32e6:pieces0:")}) {
            Check.no("a load with a fault", Check.load(desk, bad) == 0);
            Check.same("length stays", desk.torrent(0), 100);
            Check.same("piece length stays", desk.torrent(1), 50);
            Check.same("pieces stay", desk.torrent(2), 2);
            Check.same("files stay", desk.torrent(3), 0);
            Check.same("file stays", desk.file(0, 0), -1);
            Check.same("the client stays", desk.count(0, 0), 2);
            Check.same("the connection stays", desk.known(0, 1, 8), 68);
            Check.sameBytes("the hash stays", Check.hash(desk), hash);
            Check.yes("the content stays", desk.client(2, true));
        }
        Check.load(desk, "i01e");
        Check.same("place behind a fault", desk.place(), 2);
        Check.tape(desk, Check.content(100));
        desk.make(50);
        Check.same("make tells no place", desk.place(), 2);
        desk.client(0, true);
        Check.same("a load without a fault", Check.load(desk, torrent(named("1:a"))), 0);
        Check.same("place without a fault", desk.place(), -1);
        Check.same("no client then", desk.count(0, 0), -1);
        Check.no("no content then", desk.client(0, true));
        Check.yes("a client with nothing", desk.client(0, false));
        Check.same("out stays", desk.out(0), 'd');
    }

    private static void files() {
        SwarmDesk desk = new SwarmDesk();
        String tape = torrent("5:filesl" + "d6:lengthi0e4:pathl1:aee" + "d6:lengthi40e4:pathl1:a2:bbee"
            + "d6:lengthi0e4:pathl1:aee" + "d6:lengthi25e4:pathl1:a1:b1:cee" + "e4:name1:a12:piece lengthi33e6:pieces40:"
            + "y".repeat(40));
        Check.same("load of files", Check.load(desk, tape), 0);
        Check.same("length", desk.torrent(0), 65);
        Check.same("piece length", desk.torrent(1), 33);
        Check.same("pieces", desk.torrent(2), 2);
        Check.same("files", desk.torrent(3), 4);
        int[][] due = {{0, 0, 1}, {40, 0, 2}, {0, 40, 1}, {25, 40, 3}};
        for (int k = 0; k < 4; k++) {
            for (int what = 0; what < 3; what++) {
                Check.same("file " + k + ", " + what, desk.file(k, what), due[k][what]);
            }
            Check.same("another what", desk.file(k, 3), -1);
            Check.same("another what", desk.file(k, -1), -1);
        }
        Check.same("no such file", desk.file(4, 0), -1);
        Check.same("no such file", desk.file(-1, 0), -1);
        Check.same("no such file", desk.file(Integer.MAX_VALUE, 0), -1);
        Check.load(desk, torrent(named("1:a")));
        Check.same("files of a length", desk.torrent(3), 0);
        Check.same("file of a length", desk.file(0, 0), -1);
    }

    private static void hash() {
        SwarmDesk desk = new SwarmDesk();
        desk.digest();
        Check.same("hash without metainfo", desk.hash(), -1);
        Check.same("out stays", desk.out(0), 0xDA);
        String info = "d1:ad1:bi1ee" + named("3:abc") + "1:zlee";
        Check.same("load", Check.load(desk, "d1:a4:info4:info" + info + "1:zi1ee"), 0);
        Check.same("hash", desk.hash(), 20);
        Check.sameBytes("hash", Check.out(desk, 20), Check.sha(Check.text(info)));
        desk.hash();
        Check.same("the hash taken", desk.take(), 20);
    }
}
