/** Promises 1 to 7. */
public final class BytesTest {
    public static void main(String[] args) {
        newObject();
        feed();
        end();
        take();
        alter();
        digest();
        Check.finish();
    }

    private static void newObject() {
        SwarmDesk desk = new SwarmDesk();
        Check.same("NONE", SwarmDesk.NONE, -1);
        Check.same("out of nothing", desk.out(0), -1);
        Check.same("take of nothing", desk.take(), 0);
        Check.no("alter of nothing", desk.alter(0, 1));
        Check.same("place at first", desk.place(), -1);
        for (int what = -1; what < 5; what++) {
            Check.same("torrent at first", desk.torrent(what), -1);
            Check.same("file at first", desk.file(0, what), -1);
            Check.same("count at first", desk.count(0, what), -1);
            Check.same("known at first", desk.known(0, 1, what), -1);
        }
        Check.same("hash at first", desk.hash(), -1);
        Check.no("client at first", desk.client(0, false));
        Check.no("connect at first", desk.connect(0, 4));
        Check.no("close at first", desk.close(0, 4));
        Check.same("hear at first", desk.hear(0), -1);
        Check.same("say at first", desk.say(0), -1);
        Check.no("meddle at first", desk.meddle(0, 1, 0, 1));
        Check.same("act at first", desk.act(0, 1), -1);
        Check.same("pump at first", desk.pump(1), 0);
        Check.same("piece at first", desk.piece(0, 0), -1);
        Check.same("told at first", desk.told(0, 1, 0), -1);
        Check.same("disk at first", desk.disk(0, 0), -1);
    }

    private static void feed() {
        SwarmDesk desk = new SwarmDesk();
        Check.same("feed", desk.feed(0x01020304, 0xF0F1F2F3, 0, -1, 0x7FFFFFFF), 20);
        Check.same("feed again", desk.feed(1, 2, 3, 4, 5), 40);
        byte[] due = Check.join(Check.number(0x01020304), Check.number(0xF0F1F2F3), Check.number(0), Check.number(-1),
            Check.number(0x7FFFFFFF), Check.number(1), Check.number(2), Check.number(3), Check.number(4),
            Check.number(5));
        desk.digest();
        Check.sameBytes("digest of what was fed", Check.out(desk, 20), Check.sha(due));
        for (int n = 20; n <= 6000; n += 20) {
            Check.same("feed up to 6000", desk.feed(n, n, n, n, n), n);
        }
        Check.same("feed beyond 6000", desk.feed(1, 1, 1, 1, 1), -1);
        Check.same("end at 6000", desk.end(6000), 6000);
        Check.same("end at 5981", desk.end(5981), 5981);
        Check.same("feed of 20 where 19 fit", desk.feed(1, 1, 1, 1, 1), -1);
        Check.same("end at 5980", desk.end(5980), 5980);
        Check.same("feed of the last 20", desk.feed(1, 1, 1, 1, 1), 6000);
    }

    private static void end() {
        SwarmDesk desk = new SwarmDesk();
        Check.same("end at 0 of nothing", desk.end(0), 0);
        Check.same("end at 1 of nothing", desk.end(1), -1);
        desk.feed(0x61626364, 0, 0, 0, 0);
        Check.same("end beyond", desk.end(21), -1);
        Check.same("end below 0", desk.end(-1), -1);
        Check.same("end at the lowest", desk.end(Integer.MIN_VALUE), -1);
        Check.same("end at the highest", desk.end(Integer.MAX_VALUE), -1);
        Check.same("end at all", desk.end(20), 20);
        Check.same("end at 3", desk.end(3), 3);
        Check.same("end at 4 then", desk.end(4), -1);
        desk.digest();
        Check.sameBytes("digest of abc", Check.out(desk, 20), Check.sha(Check.text("abc")));
    }

    private static void take() {
        SwarmDesk desk = new SwarmDesk();
        desk.digest();
        desk.feed(1, 2, 3, 4, 5);
        desk.feed(1, 2, 3, 4, 5);
        Check.same("take", desk.take(), 20);
        Check.same("out stays behind take", desk.out(0), 0xDA);
        Check.same("end behind take", desk.end(21), -1);
        desk.digest();
        byte[] sum = Check.sha(new byte[0]);
        Check.sameBytes("digest of a digest", Check.out(desk, 20), Check.sha(sum));
    }

    private static void alter() {
        SwarmDesk desk = new SwarmDesk();
        Check.tape(desk, Check.text("abc"));
        Check.yes("alter", desk.alter(0, 0x178));
        Check.yes("alter to a negative one", desk.alter(2, -1));
        Check.no("alter behind the end", desk.alter(3, 0));
        Check.no("alter ahead of the beginning", desk.alter(-1, 0));
        Check.no("alter far below", desk.alter(Integer.MIN_VALUE, 0));
        Check.no("alter far above", desk.alter(Integer.MAX_VALUE, 0));
        desk.digest();
        Check.sameBytes("digest of what was altered", Check.out(desk, 20), Check.sha(Check.bytes('x', 'b', 255)));
    }

    private static void digest() {
        for (int n : new int[] {0, 1, 3, 54, 55, 56, 57, 63, 64, 65, 118, 119, 120, 128, 1000, 5999, 6000}) {
            SwarmDesk desk = new SwarmDesk();
            byte[] row = Check.content(n);
            Check.tape(desk, row);
            Check.same("digest", desk.digest(), 20);
            Check.sameBytes("digest of " + n, Check.out(desk, 20), Check.sha(row));
            Check.same("the tape behind digest", desk.end(1), -1);
            Check.same("out below 0", desk.out(-1), -1);
            Check.same("out far above", desk.out(Integer.MAX_VALUE), -1);
            Check.same("out far below", desk.out(Integer.MIN_VALUE), -1);
        }
    }
}
