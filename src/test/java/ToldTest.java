/** Promises 22 to 26. */
public final class ToldTest {
    public static void main(String[] args) {
        known();
        piece();
        told();
        disk();
        count();
        Check.finish();
    }

    private static final int[] FAR = {-1, 5, 64, Integer.MAX_VALUE, Integer.MIN_VALUE};

    private static SwarmDesk pair() {
        SwarmDesk desk = Check.made(Check.content(300), 100);
        desk.client(0, true);
        desk.client(1, false);
        desk.connect(0, 1);
        return desk;
    }

    private static void known() {
        SwarmDesk desk = pair();
        for (int far : FAR) {
            Check.same("known by nobody", desk.known(far, 0, 0), -1);
            Check.same("known of nobody", desk.known(0, far, 0), -1);
        }
        Check.same("known by one that is not there", desk.known(2, 0, 0), -1);
        Check.same("known by outside", desk.known(4, 0, 0), -1);
        Check.same("known of itself", desk.known(0, 0, 0), -1);
        Check.same("what -1", desk.known(0, 1, -1), -1);
        Check.same("what 10", desk.known(0, 1, 10), -1);
        for (int what = 0; what < 10; what++) {
            Check.same("known of one that is not there", desk.known(0, 2, what), 0);
            Check.same("known of outside, not connected", desk.known(0, 4, what), 0);
        }
        desk.pump(6);
        // 0 and 1 heard the hellos; 1 the bitfield, 0 that 1 is interested, 1 the unchoke; 0 a request.
        int[] of1 = {1, 1, 0, 0, 1, 1, 0, 0, 51, 0};
        int[] of0 = {1, 1, 1, 1, 0, 0, 3, 4, 77, 0};
        for (int what = 0; what < 10; what++) {
            Check.same("what 0 knows of 1: " + what, desk.known(0, 1, what), of1[what]);
            Check.same("what 1 knows of 0: " + what, desk.known(1, 0, what), of0[what]);
        }
    }

    private static void piece() {
        SwarmDesk desk = pair();
        Check.same("it has", desk.piece(0, 2), 2);
        Check.same("it has not", desk.piece(1, 0), 0);
        Check.same("no such piece", desk.piece(0, 3), -1);
        Check.same("not there", desk.piece(2, 0), -1);
        Check.same("outside", desk.piece(4, 0), -1);
        for (int far : FAR) {
            Check.same("nobody's", desk.piece(far, 0), -1);
            Check.same("no such piece", desk.piece(0, far), -1);
        }
        desk.pump(7);
        Check.same("a block came", desk.piece(1, 0), 1);
        Check.same("none came", desk.piece(1, 1), 0);
        desk.pump(2000);
        Check.same("it has", desk.piece(1, 0), 2);
    }

    private static void told() {
        SwarmDesk desk = pair();
        desk.pump(3);
        for (int p = 0; p < 3; p++) {
            Check.same("0 has it", desk.told(1, 0, p), 1);
            Check.same("1 has it not", desk.told(0, 1, p), 0);
        }
        Check.same("no such piece", desk.told(1, 0, 3), -1);
        Check.same("not connected", desk.told(1, 4, 0), -1);
        Check.same("not there", desk.told(1, 2, 0), -1);
        Check.same("not there", desk.told(2, 1, 0), -1);
        Check.same("itself", desk.told(1, 1, 0), -1);
        for (int far : FAR) {
            Check.same("nobody", desk.told(far, 1, 0), -1);
            Check.same("nobody", desk.told(1, far, 0), -1);
            Check.same("no such piece", desk.told(1, 0, far), -1);
        }
        desk.connect(1, 4);
        Check.same("outside has none", desk.told(1, 4, 0), 0);
        Check.say(desk, 1, Check.hello(Check.hash(desk)), Check.message(4, Check.number(1)));
        desk.pump(100);
        Check.same("outside has one", desk.told(1, 4, 1), 1);
        Check.same("and no other", desk.told(1, 4, 0), 0);
        Check.same("1 has all", desk.told(0, 1, 2), 1);
        desk.close(0, 1);
        Check.same("closed", desk.told(0, 1, 2), -1);
    }

    private static void disk() {
        SwarmDesk desk = pair();
        byte[] content = Check.content(300);
        Check.same("the first", desk.disk(0, 0), content[0] & 255);
        Check.same("the last", desk.disk(0, 299), content[299] & 255);
        Check.same("behind it", desk.disk(0, 300), -1);
        Check.same("ahead", desk.disk(0, -1), -1);
        Check.same("far above", desk.disk(0, Integer.MAX_VALUE), -1);
        Check.same("far below", desk.disk(0, Integer.MIN_VALUE), -1);
        Check.same("of nothing", desk.disk(1, 299), 0);
        Check.same("not there", desk.disk(2, 0), -1);
        Check.same("outside", desk.disk(4, 0), -1);
        for (int far : FAR) {
            Check.same("nobody's", desk.disk(far, 0), -1);
        }
    }

    private static void count() {
        SwarmDesk desk = pair();
        for (int far : FAR) {
            Check.same("nobody's", desk.count(far, 0), -1);
            Check.same("another what", desk.count(0, far), -1);
        }
        Check.same("not there", desk.count(3, 0), -1);
        Check.same("outside", desk.count(4, 0), -1);
        for (int what = 1; what < 5; what++) {
            Check.same("a number at first", desk.count(0, what), 0);
        }
        desk.pump(2000);
        int[] due0 = {3, 0, 6, 0, 0};
        int[] due1 = {3, 6, 0, 0, 0};
        for (int what = 0; what < 5; what++) {
            Check.same("of the one that gave", desk.count(0, what), due0[what]);
            Check.same("of the one that took", desk.count(1, what), due1[what]);
        }
        desk.close(0, 1);
        Check.same("the numbers stay behind a close", desk.count(0, 2), 6);
        desk.connect(0, 4);
        Check.say(desk, 0, Check.hello(Check.hash(desk)), Check.message(7, new byte[10]));
        desk.pump(2);
        Check.same("unasked", desk.count(0, 4), 1);
    }
}
