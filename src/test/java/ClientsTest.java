import java.util.Arrays;

/** Promises 14 to 19. */
public final class ClientsTest {
    public static void main(String[] args) {
        client();
        begunAnew();
        metainfoAgain();
        connect();
        hello();
        close();
        say();
        sayRefused();
        hear();
        meddle();
        Check.finish();
    }

    private static void client() {
        byte[] content = Check.content(150);
        SwarmDesk desk = Check.made(content, 64);
        Check.no("client -1", desk.client(-1, false));
        Check.no("client 4", desk.client(4, false));
        Check.no("a client far away", desk.client(Integer.MAX_VALUE, true));
        Check.yes("client 3 with nothing", desk.client(3, false));
        Check.yes("client 0, full", desk.client(0, true));
        for (int i = 0; i < 150; i++) {
            Check.same("a full disk", desk.disk(0, i), content[i] & 255);
            Check.same("an empty disk", desk.disk(3, i), 0);
        }
        for (int p = 0; p < 3; p++) {
            Check.same("a piece of the full one", desk.piece(0, p), 2);
            Check.same("a piece of the other one", desk.piece(3, p), 0);
        }
        Check.same("pieces of the full one", desk.count(0, 0), 3);
        Check.same("pieces of the other one", desk.count(3, 0), 0);
        Check.same("one that is not there", desk.count(1, 0), -1);
        desk.hash();
        SwarmDesk loaded = new SwarmDesk();
        Check.load(loaded, "d4:infod6:lengthi32e4:name1:a12:piece lengthi32e6:pieces20:01234567890123456789ee");
        Check.no("full without content", loaded.client(0, true));
        Check.same("refused, it is not there", loaded.count(0, 0), -1);
        Check.yes("with nothing, without content", loaded.client(0, false));
        Check.no("full without content", loaded.client(0, true));
        Check.same("refused, it stays", loaded.count(0, 0), 0);
        SwarmDesk big = Check.made(Check.content(2048), 32);
        big.client(2, true);
        Check.same("all of 64 pieces", big.count(2, 0), 64);
        byte[] most = Check.content(4096);
        SwarmDesk full = Check.made(most, 64);
        full.client(0, true);
        full.client(1, false);
        Check.same("the last byte of 4096", full.disk(0, 4095), most[4095] & 255);
        Check.same("the last byte of 4096, with nothing", full.disk(1, 4095), 0);
        Check.same("behind it", full.disk(1, 4096), -1);
        full.connect(0, 1);
        // Two hellos, bitfield, interested, unchoke; request, piece and have of each; not interested, choke.
        Check.same("it all came, in so many acts", full.pump(2000), 2 + 3 + 3 * 64 + 2);
        Check.same("all of it", full.count(1, 0), 64);
        Check.same("the last byte came", full.disk(1, 4095), most[4095] & 255);
    }

    private static void begunAnew() {
        SwarmDesk desk = Check.made(Check.content(100), 64);
        desk.client(0, true);
        desk.client(1, false);
        desk.client(2, false);
        desk.connect(0, 1);
        desk.connect(1, 4);
        desk.connect(0, 2);
        desk.pump(2000);
        Check.same("all came", desk.count(1, 0), 2);
        Check.same("taken", desk.count(1, 1), 2);
        Check.same("sent", desk.count(0, 2), 4);
        Check.say(desk, 1, new byte[68]);
        Check.same("a bad hello", desk.act(1, 4), 21);
        Check.same("its reason", desk.known(1, 4, 9), 1);
        Check.yes("begun anew", desk.client(1, false));
        Check.same("its reason is gone", desk.known(1, 4, 9), 0);
        Check.same("its connection is gone", desk.known(1, 0, 0), 0);
        Check.same("of the other one too", desk.known(0, 1, 0), 0);
        Check.same("without a reason", desk.known(0, 1, 9), 0);
        Check.same("what the other one knew", desk.known(0, 1, 6), 0);
        Check.same("the others' connection stays", desk.known(0, 2, 0), 1);
        Check.same("its pieces", desk.count(1, 0), 0);
        Check.same("its numbers", desk.count(1, 1), 0);
        Check.same("its disk", desk.disk(1, 0), 0);
        Check.same("its blocks", desk.piece(1, 0), 0);
        Check.same("the others' numbers stay", desk.count(0, 2), 4);
        desk.connect(0, 1);
        desk.pump(2000);
        Check.same("all came again", desk.count(1, 0), 2);
        Check.same("sent again", desk.count(0, 2), 6);
        desk.client(0, true);
        Check.same("sent is 0 then", desk.count(0, 2), 0);
        brokenReason();
    }

    /** Each new METAINFO has sums of its own, however many there were. */
    private static void metainfoAgain() {
        SwarmDesk desk = new SwarmDesk();
        for (int n = 0; n < 5; n++) {
            byte[] content = Check.content(90 + 40 * n);
            content[0] = (byte) n;
            Check.tape(desk, content);
            desk.make(32 + n);
            desk.client(0, true);
            desk.client(1, false);
            desk.connect(0, 1);
            desk.pump(2000);
            Check.same("all came", desk.count(1, 0), desk.torrent(2));
            Check.same("none failed", desk.count(1, 3), 0);
            Check.same("the last byte", desk.disk(1, content.length - 1), content[content.length - 1] & 255);
        }
    }

    private static void brokenReason() {
        SwarmDesk desk = Check.made(Check.content(100), 64);
        desk.client(0, true);
        desk.client(1, true);
        desk.connect(0, 1);
        desk.meddle(0, 1, 0, 0);
        Check.same("a broken hello", desk.act(1, 0), 21);
        Check.same("the reason, here", desk.known(1, 0, 9), 1);
        Check.same("the reason, there", desk.known(0, 1, 9), 1);
        desk.client(0, true);
        Check.same("no reason when the other one is begun anew", desk.known(1, 0, 9), 0);
        Check.same("nor of it", desk.known(0, 1, 9), 0);
    }

    private static void connect() {
        SwarmDesk desk = Check.made(Check.content(100), 64);
        desk.client(0, true);
        desk.client(1, false);
        Check.no("with one that is not there", desk.connect(0, 2));
        Check.no("of one that is not there", desk.connect(2, 0));
        Check.no("of two that are not there", desk.connect(2, 3));
        Check.no("with itself", desk.connect(0, 0));
        Check.no("outside with outside", desk.connect(4, 4));
        Check.no("with 5", desk.connect(0, 5));
        Check.no("with -1", desk.connect(-1, 0));
        Check.no("outside with one that is not there", desk.connect(4, 3));
        Check.no("far away", desk.connect(Integer.MAX_VALUE, Integer.MIN_VALUE));
        Check.yes("connect", desk.connect(0, 1));
        Check.no("again", desk.connect(0, 1));
        Check.no("again, the other way", desk.connect(1, 0));
        Check.yes("outside", desk.connect(4, 0));
        Check.no("outside, the other way", desk.connect(0, 4));
        int[] due = {1, 0, 1, 0, 1, 0, 0, 0, 68, 0};
        for (int what = 0; what < due.length; what++) {
            Check.same("known at first, " + what, desk.known(0, 1, what), due[what]);
            Check.same("known at first, the other way, " + what, desk.known(1, 0, what), due[what]);
            Check.same("known of outside at first, " + what, desk.known(0, 4, what), what == 8 ? 0 : due[what]);
        }
    }

    private static void hello() {
        SwarmDesk desk = Check.made(Check.content(100), 64);
        byte[] hash = Check.hash(desk);
        for (int k = 0; k < 4; k++) {
            desk.client(k, k == 1);
            desk.connect(k, 4);
            byte[] due = Check.join(Check.bytes(19), Check.text("BitTorrent protocol"), new byte[8], hash,
                Check.text("-JD0001-00000000000" + k));
            Check.sameBytes("the hello of " + k, Check.hear(desk, k), due);
        }
    }

    private static void close() {
        SwarmDesk desk = Check.made(Check.content(100), 64);
        desk.client(0, true);
        desk.client(1, false);
        Check.no("close of none", desk.close(0, 1));
        Check.no("close of one", desk.close(0, 0));
        Check.no("close of nobody", desk.close(-1, 7));
        desk.connect(0, 1);
        desk.connect(1, 4);
        desk.pump(4);
        Check.yes("close", desk.close(1, 0));
        Check.no("close again", desk.close(0, 1));
        for (int what = 0; what < 10; what++) {
            Check.same("known of a closed one, " + what, desk.known(0, 1, what), 0);
            Check.same("known by a closed one, " + what, desk.known(1, 0, what), 0);
        }
        Check.same("told of a closed one", desk.told(1, 0, 0), -1);
        Check.no("its wire", desk.meddle(0, 1, 0, 0));
        Check.yes("the other connection", desk.close(4, 1));
        desk.connect(0, 1);
        Check.same("a new wire has a new hello alone", desk.known(0, 1, 8), 68);
        desk.meddle(0, 1, 3, 0);
        desk.act(1, 0);
        Check.same("a reason", desk.known(0, 1, 9), 1);
        desk.connect(0, 1);
        Check.same("a reason stays while they are connected anew", desk.known(0, 1, 9), 1);
        desk.close(0, 1);
        Check.same("closed without a reason", desk.known(0, 1, 9), 0);
    }

    private static void say() {
        SwarmDesk desk = Check.made(Check.content(100), 64);
        desk.client(0, true);
        desk.connect(0, 4);
        Check.same("say nothing", Check.say(desk, 0), 0);
        Check.same("say", Check.say(desk, 0, Check.content(25)), 25);
        Check.same("the tape behind say", desk.end(1), -1);
        Check.same("say more", Check.say(desk, 0, Check.content(10)), 35);
        Check.same("known bytes", desk.known(0, 4, 8), 35);
        Check.same("say up to 4000", Check.say(desk, 0, Check.content(3965)), 4000);
        Check.same("say too much", Check.say(desk, 0, Check.content(1)), -1);
        Check.same("the tape behind say refused", desk.end(1), -1);
        Check.same("nothing came", desk.known(0, 4, 8), 4000);
        Check.same("say nothing to a full one", Check.say(desk, 0), 4000);
        desk.close(0, 4);
        desk.connect(0, 4);
        Check.same("a new wire", desk.known(0, 4, 8), 0);
        byte[] bytes = Check.hello(Check.hash(desk));
        Check.say(desk, 0, Arrays.copyOf(bytes, 30));
        Check.same("no whole hello", desk.act(0, 4), -1);
        Check.say(desk, 0, Arrays.copyOfRange(bytes, 30, 68));
        Check.same("a whole hello", desk.act(0, 4), 10);
    }

    private static void sayRefused() {
        SwarmDesk desk = Check.made(Check.content(100), 64);
        desk.client(0, true);
        desk.client(1, true);
        desk.connect(0, 1);
        for (int a : new int[] {-1, 0, 1, 2, 4, 5, Integer.MAX_VALUE, Integer.MIN_VALUE}) {
            Check.same("say without a connection, " + a, Check.say(desk, a, Check.content(5)), -1);
            Check.same("the tape behind say refused", desk.end(1), -1);
        }
        desk.connect(0, 4);
        Check.same("say of more than fits", Check.say(desk, 0, Check.content(4001)), -1);
        Check.same("say of what fits", Check.say(desk, 0, Check.content(4000)), 4000);
    }

    private static void hear() {
        SwarmDesk desk = Check.made(Check.content(100), 64);
        int size = desk.take();
        desk.client(0, true);
        desk.client(1, true);
        desk.connect(0, 1);
        for (int a : new int[] {-1, 0, 1, 2, 4, 5, Integer.MAX_VALUE, Integer.MIN_VALUE}) {
            Check.same("hear without a connection, " + a, desk.hear(a), -1);
            Check.same("out stays", desk.out(size - 1), 'e');
        }
        desk.connect(0, 4);
        Check.same("hear", desk.hear(0), 68);
        Check.same("out is that alone", desk.out(68), -1);
        Check.same("hear nothing", desk.hear(0), 0);
        Check.same("out is empty", desk.out(0), -1);
        Check.say(desk, 0, Check.hello(Check.hash(desk)));
        desk.act(0, 4);
        Check.sameBytes("a bitfield of 2 pieces", Check.hear(desk, 0), Check.message(5, Check.bytes(0xC0)));
    }

    private static void meddle() {
        SwarmDesk desk = Check.made(Check.content(100), 64);
        desk.client(0, true);
        desk.client(1, false);
        Check.no("meddle without a connection", desk.meddle(0, 1, 0, 1));
        desk.connect(0, 1);
        desk.connect(0, 4);
        Check.yes("meddle with the last byte", desk.meddle(0, 1, 67, 1));
        Check.no("meddle behind it", desk.meddle(0, 1, 68, 1));
        Check.no("meddle ahead", desk.meddle(0, 1, -1, 1));
        Check.no("meddle far above", desk.meddle(0, 1, Integer.MAX_VALUE, 1));
        Check.no("meddle far below", desk.meddle(0, 1, Integer.MIN_VALUE, 1));
        Check.no("meddle with nobody", desk.meddle(-1, 1, 0, 1));
        Check.no("meddle with nobody", desk.meddle(0, 9, 0, 1));
        Check.no("meddle with one", desk.meddle(0, 0, 0, 1));
        Check.no("meddle with an empty one", desk.meddle(4, 0, 0, 1));
        Check.yes("meddle with what goes out", desk.meddle(0, 4, 3, 0x141));
        Check.same("it is heard", Check.hear(desk, 0)[3], 'A');
        Check.same("the name counts for nothing", desk.act(1, 0), 10);
        Check.yes("meddle the other way", desk.meddle(1, 0, 47, -1));
        Check.same("another hash", desk.act(0, 1), 21);
        Check.say(desk, 0, Check.hello(Check.hash(desk)));
        Check.yes("meddle with what comes from outside", desk.meddle(4, 0, 19, 'k'));
        Check.same("it came so", desk.act(0, 4), 21);
    }
}
