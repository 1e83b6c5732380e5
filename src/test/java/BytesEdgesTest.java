import java.util.Arrays;

/** The boundary cases of promises 1 to 7: a test for each sentence of the document that names one. */
public final class BytesEdgesTest {
    private static final int[] FAR = {Integer.MIN_VALUE, Integer.MIN_VALUE + 1, -6000, -2, -1, 6000, 6001, Integer.MAX_VALUE};

    public static void main(String[] args) {
        lastOf512Calls();
        laterCallsThrowNothing();
        newTapeIsEmpty();
        newOutIsEmpty();
        feedHighestFirst();
        feedUpTo6000();
        feedBeyond6000();
        feedWhere19Fit();
        feedRefusedBringsNothing();
        endOfEmptyTape();
        endAtAllOfIt();
        endAtNothing();
        endBeyondIt();
        endBelow0();
        endOfFullTape();
        takeOfEmptyOut();
        takeInPlaceOfMore();
        takeInPlaceOfLess();
        takeLeavesOut();
        alterFirstAndLast();
        alterOfEmptyTape();
        alterOfNoneSuch();
        alterBehindTheEnd();
        alterKeepsEightBits();
        outOfNoneSuch();
        outOfShorterOne();
        digestOfEmptyTape();
        digestAroundItsChunks();
        digestOfFullTape();
        Check.finish();
    }

    // "An object is used for at most 512 calls after it has been made"

    private static void lastOf512Calls() {
        SwarmDesk desk = new SwarmDesk();
        desk.feed(1, 2, 3, 4, 5);
        desk.make(32);
        desk.client(0, true);
        desk.client(1, false);
        desk.connect(0, 1);
        for (int call = 6; call <= 510; call++) {
            Check.same("call " + call, desk.known(0, 1, 8), 68);
        }
        // Two hellos, bitfield, interested, unchoke, request, piece, have, not interested, choke.
        Check.same("call 511, pump", desk.pump(2000), 10);
        Check.same("call 512, count", desk.count(1, 0), 1);
    }

    private static void laterCallsThrowNothing() {
        SwarmDesk desk = new SwarmDesk();
        for (int call = 0; call < 2000; call++) {
            desk.feed(call, call, call, call, call);
        }
        for (int call = 0; call < 2000; call++) {
            desk.digest();
            desk.take();
            desk.make(32);
            desk.client(call & 3, true);
            desk.connect(call & 3, call >> 2 & 7);
            desk.pump(2000);
        }
        Check.yes("all calls came back", true);
    }

    // Promise 1: "TAPE and OUT are empty."

    private static void newTapeIsEmpty() {
        Check.same("end(1) of a new TAPE", new SwarmDesk().end(1), -1);
        Check.tapeIs("a new TAPE", new SwarmDesk(), new byte[0]);
    }

    private static void newOutIsEmpty() {
        Check.same("out(0) of a new OUT", new SwarmDesk().out(0), -1);
        SwarmDesk desk = new SwarmDesk();
        desk.feed(1, 2, 3, 4, 5);
        Check.same("take of a new OUT", desk.take(), 0);
        Check.tapeIs("the TAPE taken of a new OUT", desk, new byte[0]);
    }

    // Promise 2: "Twenty bytes come behind the TAPE, of each number the highest first: how many it has.
    // NONE, and nothing comes, if there would be more than 6000."

    private static void feedHighestFirst() {
        SwarmDesk desk = new SwarmDesk();
        Check.same("feed", desk.feed(Integer.MIN_VALUE, -1, 0, 0x00FF00FF, Integer.MAX_VALUE), 20);
        Check.tapeIs("what was fed", desk,
            Check.bytes(128, 0, 0, 0, 255, 255, 255, 255, 0, 0, 0, 0, 0, 255, 0, 255, 127, 255, 255, 255));
    }

    private static SwarmDesk withFullTape() {
        SwarmDesk desk = new SwarmDesk();
        Check.tape(desk, Check.content(6000));
        return desk;
    }

    private static void feedUpTo6000() {
        SwarmDesk desk = withFullTape();
        desk.end(5980);
        Check.same("feed up to 6000", desk.feed(1, 2, 3, 4, 5), 6000);
    }

    private static void feedBeyond6000() {
        SwarmDesk desk = withFullTape();
        Check.same("feed behind 6000", desk.feed(1, 2, 3, 4, 5), -1);
        Check.same("feed behind 6000 again", desk.feed(1, 2, 3, 4, 5), -1);
    }

    private static void feedWhere19Fit() {
        SwarmDesk desk = withFullTape();
        desk.end(5981);
        Check.same("feed behind 5981", desk.feed(1, 2, 3, 4, 5), -1);
    }

    private static void feedRefusedBringsNothing() {
        SwarmDesk desk = withFullTape();
        desk.end(5999);
        desk.feed(1, 2, 3, 4, 5);
        Check.tapeIs("the TAPE behind a refused feed", desk, Arrays.copyOf(Check.content(6000), 5999));
    }

    // Promise 3: "The TAPE has its first n bytes alone: n. NONE if it has not so many, or n is below 0."

    private static SwarmDesk withTape(byte[] row) {
        SwarmDesk desk = new SwarmDesk();
        Check.tape(desk, row);
        return desk;
    }

    private static void endOfEmptyTape() {
        SwarmDesk desk = new SwarmDesk();
        Check.same("end(0) of an empty TAPE", desk.end(0), 0);
        for (int far : FAR) {
            Check.same("end of an empty TAPE at " + far, desk.end(far), -1);
        }
    }

    private static void endAtAllOfIt() {
        SwarmDesk desk = withTape(Check.content(33));
        Check.same("end at all of it", desk.end(33), 33);
        Check.tapeIs("the TAPE ended at all of it", desk, Check.content(33));
    }

    private static void endAtNothing() {
        SwarmDesk desk = withTape(Check.content(33));
        Check.same("end at nothing", desk.end(0), 0);
        Check.tapeIs("the TAPE ended at nothing", desk, new byte[0]);
    }

    private static void endBeyondIt() {
        SwarmDesk desk = withTape(Check.content(33));
        Check.same("end at one more", desk.end(34), -1);
        Check.same("end far above", desk.end(Integer.MAX_VALUE), -1);
        Check.tapeIs("the TAPE that had not so many", desk, Check.content(33));
    }

    private static void endBelow0() {
        SwarmDesk desk = withTape(Check.content(33));
        Check.same("end at -1", desk.end(-1), -1);
        Check.same("end far below", desk.end(Integer.MIN_VALUE), -1);
        Check.tapeIs("the TAPE that was ended below 0", desk, Check.content(33));
    }

    private static void endOfFullTape() {
        SwarmDesk desk = withFullTape();
        Check.same("end at 6001 of 6000", desk.end(6001), -1);
        Check.same("end at 6000 of 6000", desk.end(6000), 6000);
        Check.same("end at 5999 of 6000", desk.end(5999), 5999);
        Check.same("end at 6000 of 5999", desk.end(6000), -1);
    }

    // Promise 4: "The TAPE is what OUT has, in place of what it had: how many bytes."

    private static void takeOfEmptyOut() {
        SwarmDesk desk = withTape(Check.content(33));
        Check.same("take of an empty OUT", desk.take(), 0);
        Check.tapeIs("the TAPE then", desk, new byte[0]);
    }

    private static void takeInPlaceOfMore() {
        SwarmDesk desk = withTape(Check.text("abc"));
        desk.digest();
        Check.tape(desk, Check.content(33));
        Check.same("take in place of more", desk.take(), 20);
        Check.tapeIs("the TAPE then", desk, Check.sha(Check.text("abc")));
    }

    private static void takeInPlaceOfLess() {
        SwarmDesk desk = withTape(Check.text("abc"));
        desk.digest();
        Check.tape(desk, Check.content(1));
        Check.same("take in place of less", desk.take(), 20);
        Check.tapeIs("the TAPE then", desk, Check.sha(Check.text("abc")));
    }

    private static void takeLeavesOut() {
        SwarmDesk desk = withTape(Check.text("abc"));
        desk.digest();
        desk.take();
        desk.alter(0, 0);
        Check.sameBytes("OUT behind take, and behind an alter of the TAPE", Check.out(desk, 20), Check.sha(Check.text("abc")));
        Check.same("take again", desk.take(), 20);
        Check.tapeIs("the TAPE then", desk, Check.sha(Check.text("abc")));
    }

    // Promise 5: "Byte i of the TAPE becomes the lowest eight bits of v: true; false if there is none such."

    private static void alterFirstAndLast() {
        SwarmDesk desk = withTape(Check.text("abc"));
        Check.yes("alter the first", desk.alter(0, 'x'));
        Check.yes("alter the last", desk.alter(2, 'z'));
        Check.tapeIs("the TAPE altered", desk, Check.text("xbz"));
    }

    private static void alterOfEmptyTape() {
        SwarmDesk desk = new SwarmDesk();
        Check.no("alter of an empty TAPE", desk.alter(0, 1));
        Check.tapeIs("the TAPE then", desk, new byte[0]);
    }

    private static void alterOfNoneSuch() {
        SwarmDesk desk = withTape(Check.text("abc"));
        Check.no("alter behind the last", desk.alter(3, 1));
        for (int far : FAR) {
            Check.no("alter at " + far, desk.alter(far, 1));
        }
        Check.tapeIs("the TAPE then", desk, Check.text("abc"));
    }

    /** Bytes that were on the TAPE once are no bytes of it. */
    private static void alterBehindTheEnd() {
        SwarmDesk desk = withTape(Check.text("abcdef"));
        desk.end(3);
        Check.no("alter behind the end", desk.alter(3, 1));
        Check.yes("alter ahead of it", desk.alter(2, 1));
    }

    private static void alterKeepsEightBits() {
        int[] values = {255, 256, 257, -1, -256, -257, 0x7FFFFF80, Integer.MIN_VALUE, Integer.MAX_VALUE};
        int[] due = {255, 0, 1, 255, 0, 255, 128, 0, 255};
        SwarmDesk desk = withTape(new byte[due.length]);
        desk.alter(1, 7);
        desk.alter(4, 7);
        desk.alter(7, 7);
        for (int i = 0; i < values.length; i++) {
            Check.yes("alter to " + values[i], desk.alter(i, values[i]));
        }
        Check.tapeIs("the TAPE then", desk, Check.bytes(due));
    }

    // Promise 6: "Byte i of OUT; NONE if there is none such."

    private static void outOfNoneSuch() {
        SwarmDesk desk = new SwarmDesk();
        desk.digest();
        Check.same("the first of OUT", desk.out(0), 0xDA);
        Check.same("the last of OUT", desk.out(19), 0x09);
        Check.same("behind the last of OUT", desk.out(20), -1);
        for (int far : FAR) {
            Check.same("OUT at " + far, desk.out(far), -1);
        }
    }

    private static void outOfShorterOne() {
        SwarmDesk desk = Check.made(Check.content(40), 32);
        Check.same("OUT of make at 20", desk.out(20) == -1 ? 1 : 0, 0);
        desk.digest();
        Check.same("OUT of digest at 19", desk.out(19), 0x09);
        Check.same("OUT of digest at 20", desk.out(20), -1);
    }

    // Promise 7: "The TAPE is taken: OUT is its SHA-1: 20."

    private static void digestOfEmptyTape() {
        SwarmDesk desk = new SwarmDesk();
        Check.same("digest of an empty TAPE", desk.digest(), 20);
        Check.sameBytes("its SHA-1", Check.out(desk, 20), Check.sha(new byte[0]));
    }

    private static void digestAroundItsChunks() {
        for (int chunk = 64; chunk <= 256; chunk += 64) {
            for (int length = chunk - 10; length <= chunk + 1; length++) {
                SwarmDesk desk = withTape(Check.content(length));
                Check.same("digest of " + length, desk.digest(), 20);
                Check.sameBytes("SHA-1 of " + length, Check.out(desk, 20), Check.sha(Check.content(length)));
                Check.same("the TAPE behind digest", desk.end(1), -1);
            }
        }
    }

    private static void digestOfFullTape() {
        SwarmDesk desk = withFullTape();
        Check.same("digest of 6000", desk.digest(), 20);
        Check.sameBytes("SHA-1 of 6000", Check.out(desk, 20), Check.sha(Check.content(6000)));
        Check.same("feed behind it", desk.feed(0, 0, 0, 0, 0), 20);
    }
}
