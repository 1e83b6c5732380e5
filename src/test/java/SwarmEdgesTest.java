/** The boundary cases of PIECE, INTEREST, CHOKING, ASKING and full WIRES in part 3 of the terms. */
public final class SwarmEdgesTest {
    private static final byte[] CONTENT = Check.content(250);

    public static void main(String[] args) {
        pieceOfJustThat();
        pieceOfAnotherOne();
        pieceAskedOfSomebodyElse();
        pieceThatCameAgain();
        pieceOfOneByte();
        pieceOf16Blocks();
        piece63();
        notAllBlocksCame();
        eachByteOfASum();
        wrongPieceIsAskedOfAnother();
        wrongBytesStayOnTheDisk();
        haveToThoseWhoseHelloCame();
        interestInNothingMore();
        interestEndsForAll();
        choking3Of4();
        chokedByTheNextAct();
        chokedAtOnce();
        chokedBehindAClosedOne();
        askingUpToFour();
        askingOneMore();
        askingThreeOfThree();
        askingNothing();
        askingFewest();
        askingWhatAllHave();
        askingOfSeveralTheLeast();
        askingNeitherCame();
        askingNorAskedOfAnybody();
        askedAgainBehindAClosedOne();
        fullByPiece();
        fullByChoke();
        fullByUnchoke();
        fullByInterested();
        fullByRequest();
        fullByHave();
        fullByNotInterested();
        fullOfThatOneAlone();
        fullWireComesIn();
        Check.finish();
    }

    private static int after(SwarmDesk desk, byte[]... parts) {
        Check.say(desk, 0, parts);
        return desk.act(0, 4);
    }

    /** Client 0 with nothing asks outside, who has all: PIECES of 100, 100 and 50 bytes. */
    private static SwarmDesk asker() {
        SwarmDesk desk = Check.greeted(CONTENT, 100, false);
        Check.say(desk, 0, Check.message(5, Check.bytes(0xE0)), Check.message(1));
        desk.pump(2);
        Check.sameBytes("what is ASKED", Check.hear(desk, 0), Check.join(Check.message(2), Check.request(0, 0, 64),
            Check.request(0, 64, 36), Check.request(1, 0, 64), Check.request(1, 64, 36)));
        return desk;
    }

    // "PIECE: if just that (PIECE, where, how many) is ASKED of the other one, it is that no more, the bytes are on
    // the disk, that BLOCK CAME (TAKEN is one more)."

    private static void pieceOfJustThat() {
        int[][] blocks = {{0, 0, 64}, {0, 64, 36}, {1, 0, 64}, {1, 64, 36}};
        for (int[] b : blocks) {
            SwarmDesk desk = asker();
            Check.same("a BLOCK", after(desk, Check.block(CONTENT, 100, b[0], b[1], b[2])), 7);
            Check.same("TAKEN", desk.count(0, 1), 1);
            Check.same("UNASKED", desk.count(0, 4), 0);
            Check.same("it CAME", desk.piece(0, b[0]), 1);
            int begin = 100 * b[0] + b[1];
            for (int i = begin - 1; i <= begin + b[2]; i++) {
                boolean inside = i >= begin && i < begin + b[2];
                if (i >= 0) {
                    Check.same("byte " + i + " of the disk", desk.disk(0, i), inside ? CONTENT[i] & 255 : 0);
                }
            }
            Check.sameBytes("the next one is ASKED", Check.hear(desk, 0), Check.request(2, 0, 50));
        }
    }

    // "Otherwise UNASKED is one more, and nothing else is done."

    private static void pieceOfAnotherOne() {
        byte[][] others = {Check.block(CONTENT, 100, 0, 0, 63), Check.block(CONTENT, 100, 0, 1, 64), Check.block(CONTENT, 100, 0, 1, 63),
            Check.block(CONTENT, 100, 0, 64, 35), Check.block(CONTENT, 100, 0, 64, 37), Check.block(CONTENT, 100, 0, 63, 37),
            Check.block(CONTENT, 100, 0, 36, 64), Check.block(CONTENT, 100, 2, 0, 50), Check.block(CONTENT, 100, 2, 0, 1),
            Check.message(7, Check.number(3), Check.number(0), new byte[64]),
            Check.message(7, Check.number(64), Check.number(0), new byte[64]),
            Check.message(7, Check.number(256), Check.number(0), new byte[64]),
            Check.message(7, Check.number(0x1000000), Check.number(0), new byte[64]),
            Check.message(7, Check.number(-1), Check.number(0), new byte[64]),
            Check.message(7, Check.number(0), Check.number(128), new byte[64]),
            Check.message(7, Check.number(0), Check.number(256), new byte[64]),
            Check.message(7, Check.number(0), Check.number(0x1000000), new byte[64]),
            Check.message(7, Check.number(0), Check.number(-64), new byte[64])};
        SwarmDesk desk = asker();
        for (int i = 0; i < others.length; i++) {
            Check.same("a PIECE that is not ASKED, " + i, after(desk, others[i]), 7);
            Check.same("UNASKED", desk.count(0, 4), i + 1);
            Check.same("four are ASKED", desk.known(0, 4, 7), 4);
        }
        Check.same("TAKEN", desk.count(0, 1), 0);
        Check.same("FAILED", desk.count(0, 3), 0);
        for (int p = 0; p < 3; p++) {
            Check.same("no BLOCK CAME of " + p, desk.piece(0, p), 0);
        }
        for (int i = 0; i < 250; i += 2) {
            Check.same("byte " + i + " of the disk", desk.disk(0, i), 0);
        }
        Check.same("nothing is sent", desk.hear(0), 0);
    }

    /** Client 0 with nothing, CONNECTED with 1, who is full, and with outside, whose HELLO came; 0 asked 1 for four. */
    private static SwarmDesk askerOf1() {
        SwarmDesk desk = Check.made(CONTENT, 100);
        desk.client(0, false);
        desk.client(1, true);
        desk.connect(0, 1);
        desk.connect(0, 4);
        desk.hear(0);
        desk.act(0, 1);
        desk.act(1, 0);
        desk.act(0, 1);
        desk.act(1, 0);
        Check.same("UNCHOKE of 1", desk.act(0, 1), 1);
        Check.same("four are ASKED of 1", desk.known(0, 1, 7), 4);
        Check.same("HELLO of outside", after(desk, Check.hello(Check.hash(desk))), 10);
        return desk;
    }

    private static void pieceAskedOfSomebodyElse() {
        SwarmDesk desk = askerOf1();
        Check.same("a BLOCK that is ASKED of 1", after(desk, Check.block(CONTENT, 100, 0, 0, 64)), 7);
        Check.same("UNASKED", desk.count(0, 4), 1);
        Check.same("TAKEN", desk.count(0, 1), 0);
        Check.same("the disk", desk.disk(0, 0), 0);
        Check.same("four are ASKED of 1 still", desk.known(0, 1, 7), 4);
    }

    private static void pieceThatCameAgain() {
        SwarmDesk desk = asker();
        byte[] wrong = CONTENT.clone();
        wrong[5] ^= 1;
        Check.same("a BLOCK", after(desk, Check.block(CONTENT, 100, 0, 0, 64)), 7);
        Check.same("it again, with another byte", after(desk, Check.block(wrong, 100, 0, 0, 64)), 7);
        Check.same("UNASKED", desk.count(0, 4), 1);
        Check.same("TAKEN", desk.count(0, 1), 1);
        Check.same("the disk", desk.disk(0, 5), CONTENT[5] & 255);
        Check.same("the other BLOCK", after(desk, Check.block(CONTENT, 100, 0, 64, 36)), 7);
        Check.same("it HAS the PIECE", desk.piece(0, 0), 2);
        Check.same("and that again", after(desk, Check.block(wrong, 100, 0, 64, 36)), 7);
        Check.same("UNASKED", desk.count(0, 4), 2);
        Check.same("FAILED", desk.count(0, 3), 0);
        Check.same("it HAS the PIECE still", desk.piece(0, 0), 2);
    }

    /** The last PIECE and the last BLOCK of what is left, the least that can be. */
    private static void pieceOfOneByte() {
        byte[] content = Check.content(33);
        SwarmDesk desk = Check.greeted(content, 32, false);
        Check.say(desk, 0, Check.message(4, Check.number(1)), Check.message(1));
        desk.pump(2);
        Check.sameBytes("what is ASKED", Check.hear(desk, 0), Check.join(Check.message(2), Check.request(1, 0, 1)));
        Check.same("it came", after(desk, Check.block(content, 32, 1, 0, 1)), 7);
        Check.same("it HAS it", desk.piece(0, 1), 2);
        Check.same("its byte", desk.disk(0, 32), content[32] & 255);
    }

    private static void pieceOf16Blocks() {
        byte[] content = Check.content(1024);
        SwarmDesk desk = Check.greeted(content, 1024, false);
        Check.say(desk, 0, Check.message(1), Check.message(4, Check.number(0)));
        desk.pump(2);
        desk.hear(0);
        for (int block = 0; block < 16; block++) {
            Check.same("PIECE ahead of BLOCK " + block, desk.piece(0, 0), block == 0 ? 0 : 1);
            Check.same("ASKED ahead of BLOCK " + block, desk.known(0, 4, 7), Math.min(4, 16 - block));
            Check.same("BLOCK " + block, after(desk, Check.block(content, 1024, 0, 64 * block, 64)), 7);
            byte[] heard = Check.hear(desk, 0);
            if (block < 12) {
                Check.sameBytes("the next one", heard, Check.request(0, 64 * (block + 4), 64));
            }
        }
        Check.same("it HAS the PIECE", desk.piece(0, 0), 2);
        Check.same("TAKEN", desk.count(0, 1), 16);
    }

    private static void piece63() {
        byte[] content = Check.content(2048);
        SwarmDesk desk = Check.greeted(content, 32, false);
        Check.say(desk, 0, Check.message(1), Check.message(4, Check.number(63)), Check.block(content, 32, 63, 0, 32));
        desk.pump(3);
        Check.same("it HAS PIECE 63", desk.piece(0, 63), 2);
        Check.same("one PIECE", desk.count(0, 0), 1);
        for (int p = 0; p < 63; p++) {
            Check.same("PIECE " + p, desk.piece(0, p), 0);
        }
        Check.sameBytes("what is sent", Check.hear(desk, 0), Check.join(Check.message(2), Check.request(63, 0, 32),
            Check.message(4, Check.number(63)), Check.message(3)));
    }

    // "If all BLOCKS of the PIECE CAME and its SHA-1 is right it HAS the PIECE"

    private static void notAllBlocksCame() {
        byte[] content = Check.content(192);
        for (int missing = 0; missing < 3; missing++) {
            SwarmDesk desk = Check.greeted(content, 192, false);
            Check.say(desk, 0, Check.message(1), Check.message(4, Check.number(0)));
            desk.pump(2);
            for (int block = 0; block < 3; block++) {
                if (block != missing) {
                    after(desk, Check.block(content, 192, 0, 64 * block, 64));
                }
            }
            Check.same("without BLOCK " + missing, desk.piece(0, 0), 1);
            Check.same("FAILED", desk.count(0, 3), 0);
            after(desk, Check.block(content, 192, 0, 64 * missing, 64));
            Check.same("with BLOCK " + missing, desk.piece(0, 0), 2);
        }
    }

    // "if it is wrong none of its BLOCKS CAME, FAILED is one more, and the CONNECTION is CLOSED, 7"

    private static void eachByteOfASum() {
        byte[] content = Check.content(64);
        for (int i = 0; i <= 20; i++) {
            SwarmDesk desk = Check.made(content, 64);
            int size = desk.take();
            if (i < 20) {
                // The last two bytes are the ends of both d.
                desk.alter(size - 22 + i, desk.out(size - 22 + i) ^ 1);
            }
            Check.same("load", desk.load(), 0);
            desk.client(0, false);
            desk.connect(0, 4);
            Check.say(desk, 0, Check.hello(Check.hash(desk)), Check.message(1), Check.message(4, Check.number(0)));
            desk.pump(3);
            Check.same("the PIECE with another byte " + i + " of its SHA-1", after(desk, Check.block(content, 64, 0, 0, 64)),
                i < 20 ? 27 : 7);
            Check.same("what it is", desk.piece(0, 0), i < 20 ? 0 : 2);
            Check.same("FAILED", desk.count(0, 3), i < 20 ? 1 : 0);
            Check.same("TAKEN", desk.count(0, 1), 1);
            Check.same("the reason", desk.known(0, 4, 9), i < 20 ? 7 : 0);
        }
    }

    private static void wrongPieceIsAskedOfAnother() {
        SwarmDesk desk = askerOf1();
        byte[] wrong = CONTENT.clone();
        wrong[249] ^= 1;
        Check.say(desk, 0, Check.message(4, Check.number(2)), Check.message(1));
        desk.act(0, 4);
        desk.act(0, 4);
        Check.same("PIECE 2 is ASKED of outside", desk.known(0, 4, 7), 1);
        // 1 answers a REQUEST, so that there is room for one more to be ASKED of it; none is left.
        desk.act(1, 0);
        Check.same("a BLOCK of 1", desk.act(0, 1), 7);
        Check.same("three are ASKED of 1", desk.known(0, 1, 7), 3);
        Check.same("a wrong PIECE 2", after(desk, Check.block(wrong, 100, 2, 0, 50)), 27);
        Check.same("PIECE 2 is ASKED of 1 in the same ACT", desk.known(0, 1, 7), 4);
        Check.same("FAILED", desk.count(0, 3), 1);
        Check.same("the reason", desk.known(0, 4, 9), 7);
        Check.same("1 stays CONNECTED", desk.known(0, 1, 0), 1);
    }

    private static void wrongBytesStayOnTheDisk() {
        SwarmDesk desk = asker();
        byte[] wrong = CONTENT.clone();
        wrong[0] ^= 1;
        Check.same("a wrong BLOCK", after(desk, Check.block(wrong, 100, 0, 0, 64)), 7);
        Check.same("a BLOCK of another PIECE", after(desk, Check.block(CONTENT, 100, 1, 0, 64)), 7);
        Check.same("the last BLOCK", after(desk, Check.block(wrong, 100, 0, 64, 36)), 27);
        Check.same("the wrong byte", desk.disk(0, 0), wrong[0] & 255);
        Check.same("no BLOCK of 0 CAME", desk.piece(0, 0), 0);
        Check.same("that of 1 CAME", desk.piece(0, 1), 1);
        Check.same("TAKEN", desk.count(0, 1), 3);
        desk.connect(0, 4);
        desk.hear(0);
        Check.say(desk, 0, Check.hello(Check.hash(desk)), Check.message(5, Check.bytes(0xE0)), Check.message(1));
        desk.pump(3);
        Check.sameBytes("what is ASKED then", Check.hear(desk, 0), Check.join(Check.message(2), Check.request(0, 0, 64),
            Check.request(0, 64, 36), Check.request(1, 64, 36), Check.request(2, 0, 50)));
    }

    // "and sends HAVE to each whose HELLO came, by their numbers"

    private static void haveToThoseWhoseHelloCame() {
        SwarmDesk desk = Check.made(CONTENT, 100);
        for (int k = 0; k < 4; k++) {
            desk.client(k, false);
        }
        desk.connect(1, 0);
        desk.connect(1, 2);
        desk.connect(1, 3);
        desk.connect(1, 4);
        desk.hear(1);
        desk.act(1, 0);
        desk.act(1, 3);
        Check.say(desk, 1, Check.hello(Check.hash(desk)), Check.message(4, Check.number(2)), Check.message(1),
            Check.block(CONTENT, 100, 2, 0, 50));
        for (int n = 0; n < 4; n++) {
            desk.act(1, 4);
        }
        Check.same("it HAS PIECE 2", desk.piece(1, 2), 2);
        Check.same("bytes to 0", desk.known(0, 1, 8), 68 + 9);
        Check.same("bytes to 2, whose HELLO did not come", desk.known(2, 1, 8), 68);
        Check.same("bytes to 3", desk.known(3, 1, 8), 68 + 9);
        Check.sameBytes("what is heard", Check.hear(desk, 1), Check.join(Check.message(2), Check.request(2, 0, 50),
            Check.message(4, Check.number(2)), Check.message(3)));
    }

    // "INTEREST: if the other one has a PIECE that it HAS not .. if there is no such one and it is INTERESTED, it is not"

    private static void interestInNothingMore() {
        SwarmDesk desk = Check.greeted(CONTENT, 100, false);
        Check.say(desk, 0, Check.message(1), Check.message(4, Check.number(2)));
        desk.pump(2);
        Check.same("INTERESTED", desk.known(0, 4, 3), 1);
        Check.same("the PIECE", after(desk, Check.block(CONTENT, 100, 2, 0, 50)), 7);
        Check.same("not INTERESTED", desk.known(0, 4, 3), 0);
        Check.same("HAVE of what it HAS", after(desk, Check.message(4, Check.number(2))), 4);
        Check.same("not INTERESTED still", desk.known(0, 4, 3), 0);
        desk.hear(0);
        Check.same("HAVE of another", after(desk, Check.message(4, Check.number(0))), 4);
        Check.same("INTERESTED again", desk.known(0, 4, 3), 1);
        Check.sameBytes("that is sent", Check.hear(desk, 0),
            Check.join(Check.message(2), Check.request(0, 0, 64), Check.request(0, 64, 36)));
    }

    private static void interestEndsForAll() {
        SwarmDesk desk = Check.made(Check.content(60), 64);
        desk.client(0, false);
        desk.client(1, true);
        desk.client(2, true);
        desk.connect(0, 1);
        desk.connect(0, 2);
        for (int b = 1; b < 3; b++) {
            desk.act(b, 0);
            desk.act(0, b);
            desk.act(0, b);
        }
        Check.same("INTERESTED in both", desk.known(0, 1, 3) + desk.known(0, 2, 3), 2);
        desk.act(1, 0);
        desk.act(0, 1);
        desk.act(1, 0);
        int before = desk.known(2, 0, 8);
        Check.same("the PIECE came", desk.act(0, 1), 7);
        Check.same("INTERESTED in none", desk.known(0, 1, 3) + desk.known(0, 2, 3), 0);
        Check.same("HAVE and NOT INTERESTED to 2", desk.known(2, 0, 8), before + 9 + 5);
    }

    // "CHOKING: .. and fewer than three of all others are not CHOKED by it"

    private static void choking3Of4() {
        for (int a = 0; a < 4; a++) {
            SwarmDesk desk = SwarmTalk.allInterested(a);
            int[] others = SwarmTalk.othersOf(a);
            for (int i = 0; i < 4; i++) {
                Check.same("does " + a + " CHOKE " + others[i], desk.known(a, others[i], 2), i < 3 ? 0 : 1);
                Check.same("is " + others[i] + " INTERESTED", desk.known(a, others[i], 5), 1);
            }
        }
    }

    /** One that has a less number was gone over already, when another one lost its interest. */
    private static void chokedByTheNextAct() {
        SwarmDesk desk = SwarmTalk.allGreeted(0);
        for (int b : new int[] {2, 3, 4, 1}) {
            Check.same("INTERESTED", desk.act(0, b), 2);
        }
        Check.same("1 is CHOKED", desk.known(0, 1, 2), 1);
        Check.same("outside is not INTERESTED", after(desk, Check.message(3)), 3);
        Check.same("it is CHOKED", desk.known(0, 4, 2), 1);
        Check.same("1 is CHOKED still", desk.known(0, 1, 2), 1);
        Check.same("KEEP ALIVE", after(desk, Check.number(0)), 9);
        Check.same("1 is CHOKED no more", desk.known(0, 1, 2), 0);
    }

    private static void chokedAtOnce() {
        SwarmDesk desk = SwarmTalk.allGreeted(3);
        Check.same("INTERESTED", desk.act(3, 4), 2);
        for (int b = 0; b < 3; b++) {
            Check.same("INTERESTED", desk.act(3, b), 2);
        }
        Check.same("2 is CHOKED", desk.known(3, 2, 2), 1);
        // 0 begins to HAVE all that it wants by outside's PIECES: it tells 3 that it is not INTERESTED.
        desk.connect(0, 4);
        desk.hear(0);
        byte[] content = SwarmTalk.CONTENT;
        Check.say(desk, 0, Check.hello(Check.hash(desk)), Check.message(5, Check.bytes(0xE0)), Check.message(1),
            Check.block(content, 64, 0, 0, 64), Check.block(content, 64, 1, 0, 64), Check.block(content, 64, 2, 0, 64));
        for (int n = 0; n < 6; n++) {
            desk.act(0, 4);
        }
        Check.same("0 HAS all", desk.count(0, 0), 3);
        for (int n = 0; n < 3; n++) {
            Check.same("HAVE to 3", desk.act(3, 0), 4);
            Check.same("2 is CHOKED still", desk.known(3, 2, 2), 1);
        }
        Check.same("NOT INTERESTED to 3", desk.act(3, 0), 3);
        Check.same("0 is CHOKED", desk.known(3, 0, 2), 1);
        Check.same("2 is CHOKED no more", desk.known(3, 2, 2), 0);
    }

    // "Behind each that was taken (CLOSED or not) the CLIENT goes over all others"

    private static void chokedBehindAClosedOne() {
        SwarmDesk desk = SwarmTalk.allGreeted(0);
        for (int b : new int[] {2, 3, 4, 1}) {
            Check.same("INTERESTED", desk.act(0, b), 2);
        }
        Check.same("1 is CHOKED", desk.known(0, 1, 2), 1);
        Check.same("outside is CLOSED", after(desk, Check.number(101)), 22);
        Check.same("1 is CHOKED no more", desk.known(0, 1, 2), 0);
    }

    // "ASKING: .. as long as fewer than four BLOCKS are ASKED of that one"

    private static void askingUpToFour() {
        SwarmDesk desk = Check.greeted(Check.content(64 * 5), 64, false);
        Check.say(desk, 0, Check.message(1), Check.message(4, Check.number(0)), Check.message(4, Check.number(1)),
            Check.message(4, Check.number(2)), Check.message(4, Check.number(3)), Check.message(4, Check.number(4)));
        desk.act(0, 4);
        for (int n = 1; n <= 5; n++) {
            Check.same("HAVE", desk.act(0, 4), 4);
            Check.same("ASKED behind " + n, desk.known(0, 4, 7), Math.min(4, n));
        }
    }

    private static void askingOneMore() {
        SwarmDesk desk = asker();
        Check.same("a BLOCK", after(desk, Check.block(CONTENT, 100, 1, 64, 36)), 7);
        Check.same("four are ASKED again", desk.known(0, 4, 7), 4);
        Check.sameBytes("the last one", Check.hear(desk, 0), Check.request(2, 0, 50));
        Check.same("another BLOCK", after(desk, Check.block(CONTENT, 100, 1, 0, 64)), 7);
        Check.same("three are left", desk.known(0, 4, 7), 3);
    }

    private static void askingThreeOfThree() {
        SwarmDesk desk = Check.greeted(Check.content(192), 192, false);
        Check.say(desk, 0, Check.message(1), Check.message(4, Check.number(0)));
        desk.pump(2);
        Check.same("three BLOCKS", desk.known(0, 4, 7), 3);
        Check.sameBytes("all of them", Check.hear(desk, 0), Check.join(Check.message(2), Check.request(0, 0, 64),
            Check.request(0, 64, 64), Check.request(0, 128, 64)));
    }

    // "Without one nothing."

    private static void askingNothing() {
        SwarmDesk desk = Check.greeted(CONTENT, 100, false);
        Check.same("UNCHOKE", after(desk, Check.message(1)), 1);
        Check.same("nothing is ASKED of one with nothing", desk.known(0, 4, 7), 0);
        Check.same("nothing is sent", desk.hear(0), 0);
        SwarmDesk choked = Check.greeted(CONTENT, 100, false);
        Check.same("BITFIELD", after(choked, Check.message(5, Check.bytes(0xE0))), 5);
        Check.same("nothing is ASKED by one that is CHOKED", choked.known(0, 4, 7), 0);
        SwarmDesk full = Check.greeted(CONTENT, 100, true);
        Check.say(full, 0, Check.message(5, Check.bytes(0xE0)), Check.message(1));
        full.pump(2);
        Check.same("nothing is ASKED by one that HAS all", full.known(0, 4, 7), 0);
    }

    // "the PIECE of which the fewest of those whose HELLO came have it"

    /** Gives client k the PIECE p of 64 bytes, from outside. */
    private static void give(SwarmDesk desk, int k, int p) {
        desk.connect(k, 4);
        Check.say(desk, k, Check.hello(Check.hash(desk)), Check.message(1), Check.message(4, Check.number(p)),
            Check.block(SwarmTalk.CONTENT, 64, p, 0, 64));
        for (int n = 0; n < 4; n++) {
            desk.act(k, 4);
        }
        Check.same("given", desk.piece(k, p), 2);
        desk.close(k, 4);
    }

    private static void askingFewest() {
        for (int a = 0; a < 4; a++) {
            for (int k = 0; k < 4; k++) {
                if (k == a) {
                    continue;
                }
                SwarmDesk desk = Check.made(SwarmTalk.CONTENT, 64);
                desk.client(a, false);
                desk.client(k, false);
                give(desk, k, 0);
                desk.connect(a, k);
                desk.connect(a, 4);
                desk.hear(a);
                desk.act(k, a);
                desk.act(a, k);
                Check.same("BITFIELD of " + k, desk.act(a, k), 5);
                Check.say(desk, a, Check.hello(Check.hash(desk)), Check.message(5, Check.bytes(0xC0)), Check.message(1));
                for (int n = 0; n < 3; n++) {
                    desk.act(a, 4);
                }
                Check.sameBytes("PIECE 1, which outside alone has, and then 0", Check.hear(desk, a),
                    Check.join(Check.message(2), Check.request(1, 0, 64), Check.request(0, 0, 64)));
            }
        }
    }

    /** Four others are the most who can have a PIECE. */
    private static void askingWhatAllHave() {
        for (int a = 0; a < 4; a++) {
            SwarmDesk desk = Check.made(SwarmTalk.CONTENT, 64);
            for (int k = 0; k < 4; k++) {
                desk.client(k, k != a);
            }
            for (int b : SwarmTalk.othersOf(a)) {
                desk.connect(a, b);
                if (b != 4) {
                    desk.act(b, a);
                    Check.same("HELLO of " + b, desk.act(a, b), 10);
                    Check.same("BITFIELD of " + b, desk.act(a, b), 5);
                }
            }
            desk.hear(a);
            Check.say(desk, a, Check.hello(Check.hash(desk)), Check.message(5, Check.bytes(0xE0)), Check.message(1));
            for (int n = 0; n < 3; n++) {
                desk.act(a, 4);
            }
            Check.sameBytes("what " + a + " ASKS of outside", Check.hear(desk, a), Check.join(Check.message(2),
                Check.request(0, 0, 64), Check.request(1, 0, 64), Check.request(2, 0, 64)));
        }
    }

    // "of several the least"

    private static void askingOfSeveralTheLeast() {
        byte[] content = Check.content(64 * 6);
        SwarmDesk desk = Check.greeted(content, 64, false);
        Check.say(desk, 0, Check.message(5, Check.bytes(0x7C)), Check.message(1));
        desk.pump(2);
        Check.sameBytes("1, 2, 3, 4", Check.hear(desk, 0), Check.join(Check.message(2), Check.request(1, 0, 64),
            Check.request(2, 0, 64), Check.request(3, 0, 64), Check.request(4, 0, 64)));
        Check.same("BLOCK of 3", after(desk, Check.block(content, 64, 3, 0, 64)), 7);
        Check.sameBytes("5 is the next", Check.hear(desk, 0), Check.join(Check.message(4, Check.number(3)), Check.request(5, 0, 64)));
    }

    // "and of which a BLOCK neither CAME nor is ASKED of anybody: the first such BLOCK is ASKED"

    private static void askingNeitherCame() {
        for (int came = 0; came < 3; came++) {
            byte[] content = Check.content(192);
            SwarmDesk desk = Check.greeted(content, 192, false);
            Check.say(desk, 0, Check.message(1), Check.message(4, Check.number(0)), Check.block(content, 192, 0, 64 * came, 64),
                Check.message(0));
            desk.pump(4);
            desk.hear(0);
            Check.same("UNCHOKE", after(desk, Check.message(1)), 1);
            int first = came == 0 ? 64 : 0;
            int second = came == 2 ? 64 : 128;
            Check.sameBytes("what did not come", Check.hear(desk, 0),
                Check.join(Check.request(0, first, 64), Check.request(0, second, 64)));
        }
    }

    private static void askingNorAskedOfAnybody() {
        SwarmDesk desk = askerOf1();
        desk.hear(0);
        Check.say(desk, 0, Check.message(5, Check.bytes(0xE0)), Check.message(1));
        desk.act(0, 4);
        desk.act(0, 4);
        Check.sameBytes("what is not ASKED of 1", Check.hear(desk, 0), Check.join(Check.message(2), Check.request(2, 0, 50)));
    }

    private static void askedAgainBehindAClosedOne() {
        SwarmDesk desk = askerOf1();
        Check.say(desk, 0, Check.message(5, Check.bytes(0xE0)), Check.message(1));
        desk.act(0, 4);
        desk.act(0, 4);
        Check.same("PIECE 2 is ASKED of outside", desk.known(0, 4, 7), 1);
        desk.act(1, 0);
        Check.same("a BLOCK of 1", desk.act(0, 1), 7);
        Check.same("three are ASKED of 1", desk.known(0, 1, 7), 3);
        Check.same("outside is CLOSED", after(desk, Check.number(101)), 22);
        Check.same("four are ASKED of 1 in the same ACT", desk.known(0, 1, 7), 4);
    }

    // "A WIRE with more than 4000 bytes (then): CLOSED, 8, by who sends (nothing of it is left; what would be done
    // of that one then is not)."

    /** Client 0 HAS PIECE 0 of two of 64 bytes; outside UNCHOKED it, is INTERESTED, and was not heard for so many bytes. */
    private static SwarmDesk half(int bytes) {
        SwarmDesk desk = halfOf(Check.content(128));
        Check.fill(desk, 0, bytes);
        return desk;
    }

    private static SwarmDesk halfOf(byte[] content) {
        SwarmDesk desk = Check.greeted(content, 64, false);
        Check.say(desk, 0, Check.message(1), Check.message(4, Check.number(0)), Check.block(content, 64, 0, 0, 64), Check.message(2));
        desk.pump(4);
        Check.same("it HAS PIECE 0", desk.piece(0, 0), 2);
        Check.same("and CHOKES not", desk.known(0, 4, 2), 0);
        desk.hear(0);
        return desk;
    }

    private static void fits(String what, int kind, SwarmDesk desk, byte[] message) {
        Check.same(what, after(desk, message), kind);
        Check.same(what + ": CONNECTED", desk.known(0, 4, 0), 1);
        Check.same(what + ": bytes", desk.hear(0), 4000);
    }

    /** The answer tells what came, as reason 8 is aside. */
    private static void overflows(String what, int kind, SwarmDesk desk, byte[] message) {
        Check.same(what, after(desk, message), kind);
        for (int k = 0; k < 9; k++) {
            Check.same(what + ": known " + k, desk.known(0, 4, k), 0);
        }
        Check.same(what + ": the reason", desk.known(0, 4, 9), 8);
        Check.same(what + ": nothing is left", desk.hear(0), -1);
        Check.yes(what + ": they may be CONNECTED again", desk.connect(0, 4));
        Check.same(what + ": with a HELLO alone", desk.hear(0), 68);
    }

    private static void fullByPiece() {
        fits("a PIECE of 64 up to 4000", 6, half(4000 - 77), Check.request(0, 0, 64));
        overflows("a PIECE of 64 up to 4001", 6, half(4001 - 77), Check.request(0, 0, 64));
        fits("a PIECE of 1 up to 4000", 6, half(4000 - 14), Check.request(0, 63, 1));
        overflows("a PIECE of 1 up to 4001", 6, half(4001 - 14), Check.request(0, 63, 1));
        overflows("a PIECE of 1 behind 4000", 6, half(4000), Check.request(0, 63, 1));
        SwarmDesk desk = half(4000);
        Check.same("no bytes to send", after(desk, Check.request(1, 0, 64)), 6);
        Check.same("4000 stay", desk.hear(0), 4000);
    }

    private static void fullByChoke() {
        fits("CHOKE up to 4000", 3, half(3995), Check.message(3));
        overflows("CHOKE up to 4001", 3, half(3996), Check.message(3));
        overflows("CHOKE behind 4000", 3, half(4000), Check.message(3));
    }

    private static void fullByUnchoke() {
        SwarmDesk fits = half(3990);
        Check.same("NOT INTERESTED", after(fits, Check.message(3)), 3);
        fits("UNCHOKE up to 4000", 2, fits, Check.message(2));
        SwarmDesk full = half(3991);
        Check.same("NOT INTERESTED", after(full, Check.message(3)), 3);
        overflows("UNCHOKE up to 4001", 2, full, Check.message(2));
    }

    private static void fullByInterested() {
        overflows("INTERESTED up to 4001", 4, half(3996), Check.message(4, Check.number(1)));
        overflows("INTERESTED behind 4000", 4, half(4000), Check.message(4, Check.number(1)));
        SwarmDesk desk = half(3995);
        Check.same("CHOKE", after(desk, Check.message(0)), 0);
        fits("INTERESTED up to 4000", 4, desk, Check.message(4, Check.number(1)));
    }

    private static void fullByRequest() {
        fits("INTERESTED and a REQUEST up to 4000", 4, half(4000 - 5 - 17), Check.message(4, Check.number(1)));
        overflows("INTERESTED and a REQUEST up to 4001", 4, half(4001 - 5 - 17), Check.message(4, Check.number(1)));
        overflows("INTERESTED up to 4000, and a REQUEST", 4, half(3995), Check.message(4, Check.number(1)));
    }

    /** One that is ASKED for PIECE 1, and was not heard for so many bytes behind that. */
    private static SwarmDesk halfAsked(int bytes) {
        SwarmDesk desk = halfOf(Check.content(128));
        Check.same("HAVE 1", after(desk, Check.message(4, Check.number(1))), 4);
        Check.same("INTERESTED and a REQUEST", desk.hear(0), 22);
        Check.fill(desk, 0, bytes);
        return desk;
    }

    private static void fullByHave() {
        byte[] block = Check.block(Check.content(128), 64, 1, 0, 64);
        for (int bytes : new int[] {3992, 4000}) {
            SwarmDesk desk = halfAsked(bytes);
            overflows("HAVE behind " + bytes, 7, desk, block);
            Check.same("it HAS the PIECE", desk.piece(0, 1), 2);
            Check.same("TAKEN", desk.count(0, 1), 2);
        }
    }

    private static void fullByNotInterested() {
        byte[] block = Check.block(Check.content(128), 64, 1, 0, 64);
        fits("HAVE and NOT INTERESTED up to 4000", 7, halfAsked(4000 - 9 - 5), block);
        overflows("HAVE and NOT INTERESTED up to 4001", 7, halfAsked(4001 - 9 - 5), block);
        overflows("HAVE up to 4000, and NOT INTERESTED", 7, halfAsked(3991), block);
    }

    /** The others are told and gone over as ever. */
    private static void fullOfThatOneAlone() {
        byte[] content = Check.content(128);
        SwarmDesk desk = halfOf(content);
        desk.client(3, false);
        desk.connect(0, 3);
        Check.same("HELLO of 3", desk.act(0, 3), 10);
        Check.same("HAVE 1", after(desk, Check.message(4, Check.number(1))), 4);
        Check.fill(desk, 0, 3970);
        int before = desk.known(3, 0, 8);
        Check.same("PIECE 1", after(desk, Check.block(content, 64, 1, 0, 64)), 7);
        Check.same("outside is CLOSED", desk.known(0, 4, 9), 8);
        Check.same("3 is CONNECTED", desk.known(0, 3, 0), 1);
        Check.same("3 is told", desk.known(3, 0, 8), before + 9);
        Check.same("3 knows no reason", desk.known(3, 0, 9), 0);
    }

    /** A full WIRE the other way is none of this: it is taken from its beginning on, to its last byte. */
    private static void fullWireComesIn() {
        SwarmDesk desk = Check.greeted(CONTENT, 100, false);
        // 996 KEEP ALIVES, one that is UNKNOWN, a HAVE, and a byte of what is not whole.
        Check.same("say 4000", Check.say(desk, 0, new byte[3984], Check.message(9, new byte[1]), Check.message(4, Check.number(2)),
            new byte[1]), 4000);
        Check.same("all that is whole", desk.pump(2000), 998);
        Check.same("the HAVE came", desk.told(0, 4, 2), 1);
        Check.same("a byte is left", desk.known(0, 4, 8), 1);
    }
}
