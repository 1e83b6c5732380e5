/** Desks for the tests whose clients have talked to one another for a while. */
final class SwarmTalk {
    static final byte[] CONTENT = Check.content(192);

    private SwarmTalk() {
    }

    /** All others of five, by their numbers. */
    static int[] othersOf(int a) {
        int[] others = new int[4];
        for (int k = 0; k < 4; k++) {
            others[k] = k < a ? k : k + 1;
        }
        return others;
    }

    /**
     * Client a is full, with three PIECES of 64 bytes; all others are CONNECTED with it and have nothing,
     * it has heard of each that it is INTERESTED, by their numbers.
     */
    static SwarmDesk allInterested(int a) {
        SwarmDesk desk = allGreeted(a);
        for (int b : othersOf(a)) {
            Check.same("INTERESTED came from " + b, desk.act(a, b), 2);
        }
        return desk;
    }

    /** The same, but nothing behind the HELLOS came to a yet. */
    static SwarmDesk allGreeted(int a) {
        SwarmDesk desk = Check.made(CONTENT, 64);
        for (int k = 0; k < 4; k++) {
            desk.client(k, k == a);
        }
        for (int b : othersOf(a)) {
            desk.connect(a, b);
            if (b == 4) {
                desk.hear(a);
                Check.say(desk, a, Check.hello(Check.hash(desk)), Check.message(2));
            } else {
                desk.act(b, a);
            }
            Check.same("HELLO came from " + b, desk.act(a, b), 10);
            if (b != 4) {
                Check.same("BITFIELD came to " + b, desk.act(b, a), 5);
            }
        }
        return desk;
    }
}
