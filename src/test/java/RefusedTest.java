import java.util.ArrayList;
import java.util.List;
import java.util.function.Consumer;
import java.util.function.ToLongFunction;

/**
 * "A call that is refused changes nothing but the TAPE, which is empty behind each call that takes it." Each
 * refusal that the document names is tried on a desk in the middle of a talk; then that desk answers all questions
 * as one that was never asked.
 */
public final class RefusedTest {
    private static final byte[] CONTENT = Check.content(150);
    private static final byte[] TAPE = Check.text("what is on the TAPE");
    private static final int NONE = SwarmDesk.NONE;

    public static void main(String[] args) {
        inTheMiddle();
        bytes();
        metainfo();
        clients();
        acts();
        questions();
        withoutMetainfo();
        Check.finish();
    }

    /**
     * Client 0 is full, 1 and 2 have a PIECE and a BLOCK of it, and more is on its way; outside is CONNECTED with 1
     * and was with 2; 3 is not there; TAPE and OUT are not empty, and the latest load told a place.
     */
    private static SwarmDesk busy() {
        SwarmDesk desk = Check.made(CONTENT, 70);
        for (int k = 0; k < 3; k++) {
            desk.client(k, k == 0);
        }
        desk.connect(0, 1);
        desk.connect(1, 4);
        desk.connect(0, 2);
        desk.connect(2, 4);
        Check.say(desk, 1, Check.hello(Check.hash(desk)), Check.message(2), Check.message(4, Check.number(1)), Check.bytes(0, 0));
        Check.say(desk, 2, new byte[68]);
        desk.pump(28);
        Check.load(desk, "li01e");
        Check.tape(desk, TAPE);
        return desk;
    }

    private static void inTheMiddle() {
        SwarmDesk desk = busy();
        for (int k = 1; k < 3; k++) {
            Check.same("a PIECE of " + k, desk.piece(k, 0), 2);
            Check.same("a BLOCK of " + k, desk.piece(k, 1), 1);
            Check.yes("bytes on their way to " + k, desk.known(k, 0, 8) > 0);
            Check.yes("bytes on their way from " + k, desk.known(0, k, 8) > 0);
        }
        Check.same("what outside said to 1", desk.known(1, 4, 8), 2);
        Check.same("why 2 is CLOSED", desk.known(2, 4, 9), 1);
        Check.same("3 is not there", desk.count(3, 0), NONE);
        Check.same("the place", desk.place(), 3);
        Check.yes("OUT is not empty", desk.out(0) != NONE);
        Check.tapeIs("the TAPE", desk, TAPE);
    }

    /** All that can be asked and told of a desk; each part is asked of a desk of its own, as 512 calls are the most. */
    private static final List<Consumer<Answers>> PARTS = List.of(RefusedTest::bytesOf, RefusedTest::metainfoOf, RefusedTest::linksOf,
        RefusedTest::disksOf, RefusedTest::talkOf);

    private static final class Answers {
        final SwarmDesk desk;
        final List<Long> all = new ArrayList<>();

        Answers(SwarmDesk desk) {
            this.desk = desk;
        }

        void add(long answer) {
            all.add(answer);
        }
    }

    private static void bytesOf(Answers to) {
        for (int i = -1; i < 180; i++) {
            to.add(to.desk.out(i));
        }
        to.add(to.desk.end(TAPE.length + 1));
        to.add(to.desk.digest());
        for (int i = 0; i < 20; i++) {
            to.add(to.desk.out(i));
        }
    }

    private static void metainfoOf(Answers to) {
        to.add(to.desk.place());
        for (int what = 0; what < 4; what++) {
            to.add(to.desk.torrent(what));
            to.add(to.desk.file(0, what));
        }
        to.add(to.desk.hash());
        for (int i = 0; i < 20; i++) {
            to.add(to.desk.out(i));
        }
        // What the CONTENT is shows in a CLIENT that is full.
        to.add(to.desk.client(3, true) ? 1 : 0);
        for (int i = 0; i < 151; i++) {
            to.add(to.desk.disk(3, i));
        }
    }

    private static void linksOf(Answers to) {
        for (int a = 0; a < 4; a++) {
            for (int b : SwarmTalk.othersOf(a)) {
                for (int what = 0; what < 10; what++) {
                    to.add(to.desk.known(a, b, what));
                }
                for (int p = 0; p < 3; p++) {
                    to.add(to.desk.told(a, b, p));
                }
            }
        }
    }

    private static void disksOf(Answers to) {
        for (int a = 0; a < 4; a++) {
            for (int i = 0; i < 5; i++) {
                to.add(to.desk.count(a, i));
                to.add(to.desk.piece(a, i));
            }
            for (int i = 0; i < 150; i += 4) {
                to.add(to.desk.disk(a, i));
            }
        }
    }

    /** What is in the WIRES shows in what is heard, and in how the talk ends. */
    private static void talkOf(Answers to) {
        for (int a = 0; a < 4; a++) {
            to.add(to.desk.hear(a));
            for (int i = 0; i < 20; i++) {
                to.add(to.desk.out(i));
            }
        }
        to.add(to.desk.pump(2000));
        for (int a = 0; a < 4; a++) {
            to.add(to.desk.hear(a));
            to.add(to.desk.take());
            to.add(to.desk.digest());
            for (int i = 0; i < 4; i++) {
                to.add(to.desk.out(i));
            }
            for (int what = 0; what < 5; what++) {
                to.add(to.desk.count(a, what));
            }
            for (int b = 0; b < 5; b++) {
                to.add(to.desk.known(a, b, 9));
            }
        }
    }

    private static void refused(String what, ToLongFunction<SwarmDesk> call, long due, boolean takes) {
        for (Consumer<Answers> part : PARTS) {
            Answers asked = new Answers(busy());
            Answers never = new Answers(busy());
            Check.same(what, call.applyAsLong(asked.desk), due);
            if (takes) {
                never.desk.end(0);
            }
            part.accept(asked);
            part.accept(never);
            Check.yes(what + " changes nothing" + (takes ? " but the TAPE" : ""), asked.all.equals(never.all));
        }
    }

    private static void none(String what, ToLongFunction<SwarmDesk> call) {
        refused(what, call, NONE, false);
    }

    /** The same for a call that takes the TAPE, which has just these bytes. */
    private static void noneOf(String what, byte[] tape, ToLongFunction<SwarmDesk> call) {
        refused(what, desk -> {
            Check.tape(desk, tape);
            return call.applyAsLong(desk);
        }, NONE, true);
    }

    private interface Asked {
        boolean on(SwarmDesk desk);
    }

    private static void no(String what, Asked call) {
        refused(what, desk -> call.on(desk) ? 1 : 0, 0, false);
    }

    private static void bytes() {
        none("end beyond", desk -> desk.end(TAPE.length + 1));
        none("end below 0", desk -> desk.end(-1));
        no("alter behind the last", desk -> desk.alter(TAPE.length, 1));
        no("alter ahead of the first", desk -> desk.alter(-1, 1));
        none("out behind the last", desk -> desk.out(6000));
        none("out ahead of the first", desk -> desk.out(-1));
        SwarmDesk full = new SwarmDesk();
        Check.tape(full, Check.content(5990));
        Check.same("feed beyond 6000", full.feed(1, 2, 3, 4, 5), NONE);
        Check.tapeIs("the TAPE that was full", full, Check.content(5990));
    }

    private static void metainfo() {
        noneOf("make of nothing", new byte[0], desk -> desk.make(64));
        noneOf("make of 4097", new byte[4097], desk -> desk.make(1024));
        noneOf("make of PIECE LENGTH 31", new byte[40], desk -> desk.make(31));
        noneOf("make of PIECE LENGTH 1025", new byte[40], desk -> desk.make(1025));
        noneOf("make of 65 PIECES", new byte[2049], desk -> desk.make(32));
        none("torrent 4", desk -> desk.torrent(4));
        none("torrent -1", desk -> desk.torrent(-1));
        none("file 0", desk -> desk.file(0, 0));
        loads();
    }

    /** A load with a FAULT changes the place, too: all else stays. */
    private static void loads() {
        String[] tapes = {"li01e", "de", Draft.right().without("name").text(), Draft.right().without("piece length").text(),
            Draft.filed(Draft.file(40), "i1e").text(), Draft.right().with("pieces", "0:").text()};
        for (int i = 0; i < tapes.length; i++) {
            String tape = tapes[i];
            // The desk that was never asked told place 3; this one tells that again behind the FAULT.
            refused("load with FAULT " + (1 + i), desk -> {
                int fault = Check.load(desk, tape);
                Check.load(desk, "li01e");
                return fault;
            }, 1 + i, true);
        }
    }

    private static void clients() {
        no("client -1", desk -> desk.client(-1, true));
        no("client 4", desk -> desk.client(4, false));
        no("connect with one not there", desk -> desk.connect(0, 3));
        no("connect of one not there", desk -> desk.connect(3, 4));
        no("connect with itself", desk -> desk.connect(1, 1));
        no("connect again", desk -> desk.connect(1, 0));
        no("connect with outside again", desk -> desk.connect(4, 1));
        no("connect with 5", desk -> desk.connect(0, 5));
        no("close of none", desk -> desk.close(1, 2));
        no("close of itself", desk -> desk.close(0, 0));
        no("close of one that is closed", desk -> desk.close(2, 4));
        no("close of nobody", desk -> desk.close(-1, 0));
        noneOf("say without CONNECTION", TAPE, desk -> desk.say(0));
        noneOf("say to one that is closed", TAPE, desk -> desk.say(2));
        noneOf("say to one not there", TAPE, desk -> desk.say(3));
        noneOf("say to outside", TAPE, desk -> desk.say(4));
        noneOf("say too much", new byte[4000], desk -> desk.say(1));
        none("hear without CONNECTION", desk -> desk.hear(0));
        none("hear one that is closed", desk -> desk.hear(2));
        none("hear outside", desk -> desk.hear(4));
        none("hear nobody", desk -> desk.hear(-1));
        no("meddle without CONNECTION", desk -> desk.meddle(1, 2, 0, 1));
        no("meddle behind the last", desk -> desk.meddle(4, 1, 2, 1));
        no("meddle ahead of the first", desk -> desk.meddle(4, 1, -1, 1));
        no("meddle with one that is closed", desk -> desk.meddle(2, 4, 0, 1));
        no("meddle with nobody", desk -> desk.meddle(5, 0, 0, 1));
    }

    private static void acts() {
        none("act without CONNECTION", desk -> desk.act(1, 2));
        none("act on one that is closed", desk -> desk.act(2, 4));
        none("act of outside", desk -> desk.act(4, 1));
        none("act on what is not whole", desk -> desk.act(1, 4));
        none("act of one not there", desk -> desk.act(3, 0));
        none("act on itself", desk -> desk.act(1, 1));
        none("act of nobody", desk -> desk.act(-1, 5));
        none("pump 0", desk -> desk.pump(0));
        none("pump -1", desk -> desk.pump(-1));
        none("pump 2001", desk -> desk.pump(2001));
    }

    private static void questions() {
        none("known by one not there", desk -> desk.known(3, 0, 0));
        none("known of 5", desk -> desk.known(0, 5, 0));
        none("known of itself", desk -> desk.known(0, 0, 0));
        none("known of what 10", desk -> desk.known(0, 1, 10));
        none("PIECE 3 of three", desk -> desk.piece(0, 3));
        none("told of PIECE 3 of three", desk -> desk.told(1, 0, 3));
        none("told where they are not CONNECTED", desk -> desk.told(1, 2, 0));
        none("disk behind the last", desk -> desk.disk(0, 150));
        none("count of one not there", desk -> desk.count(3, 0));
        none("count of what 5", desk -> desk.count(0, 5));
    }

    /** Without METAINFO OUT and TAPE are all there is. */
    private static void withoutMetainfo() {
        List<ToLongFunction<SwarmDesk>> calls = List.of(desk -> desk.hash(), desk -> desk.torrent(0), desk -> desk.file(0, 0),
            desk -> desk.client(0, false) ? 1 : NONE, desk -> desk.client(0, true) ? 1 : NONE, desk -> desk.connect(0, 4) ? 1 : NONE,
            desk -> desk.close(0, 4) ? 1 : NONE, desk -> desk.hear(0), desk -> desk.act(0, 4), desk -> desk.known(0, 4, 0),
            desk -> desk.piece(0, 0), desk -> desk.told(0, 4, 0), desk -> desk.disk(0, 0), desk -> desk.count(0, 0));
        for (ToLongFunction<SwarmDesk> call : calls) {
            SwarmDesk desk = new SwarmDesk();
            desk.digest();
            Check.tape(desk, TAPE);
            Check.same("a call without METAINFO", call.applyAsLong(desk), NONE);
            Check.sameBytes("OUT stays", Check.out(desk, 20), Check.sha(new byte[0]));
            Check.tapeIs("the TAPE stays", desk, TAPE);
        }
    }
}
