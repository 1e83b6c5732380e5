import java.lang.reflect.Method;
import java.util.ArrayDeque;
import java.util.ArrayList;
import java.util.Arrays;
import java.util.Deque;
import java.util.HashMap;
import java.util.List;
import java.util.Map;
import java.util.Random;
import java.util.TreeMap;

/** Random runs of at most 512 calls, answered by the class and by the model of the document. */
public final class ModelTest {
    private static final int RUNS = 3000;
    private static final int MOST_CALLS = 512;
    private static final Map<String, Method> DESK = methods(SwarmDesk.class);
    private static final Map<String, Method> MODEL = methods(Model.class);
    /** How often each call gave each answer, so that a run that never gets anywhere is seen. */
    private static final Map<String, Integer> SEEN = new TreeMap<>();

    private final Random random;
    private final SwarmDesk desk = new SwarmDesk();
    private final Model model = new Model();
    private final List<String> log = new ArrayList<>();
    private final Deque<byte[]> replies = new ArrayDeque<>();
    private byte[] content = {};
    private int pieceLength = 64;
    private int calls = 0;

    private ModelTest(long seed) {
        random = new Random(seed);
    }

    public static void main(String[] args) {
        for (int run = 0; run < RUNS; run++) {
            new ModelTest(run).play(run);
        }
        for (int what = 0; what < 28; what++) {
            if (what != 12 && what <= 11 || what > 20) {
                Check.yes("some act answered " + what, SEEN.getOrDefault("act " + what, 0) > 0);
            }
        }
        for (int reason = 0; reason < 9; reason++) {
            Check.yes("some reason was " + reason, SEEN.getOrDefault("known9 " + reason, 0) > 0);
        }
        for (int fault = 0; fault < 7; fault++) {
            Check.yes("some fault was " + fault, SEEN.getOrDefault("load " + fault, 0) > 0);
        }
        if (args.length > 0) {
            SEEN.forEach((k, v) -> System.out.println(k + ": " + v));
        }
        Check.finish();
    }

    private static Map<String, Method> methods(Class<?> face) {
        Map<String, Method> all = new HashMap<>();
        for (Method m : face.getDeclaredMethods()) {
            if (java.lang.reflect.Modifier.isPublic(m.getModifiers())) {
                all.put(m.getName(), m);
            }
        }
        return all;
    }

    private long call(String name, Object... args) {
        if (++calls > MOST_CALLS) {
            return -1;
        }
        try {
            long got = answer(DESK.get(name).invoke(desk, args));
            long due = answer(MODEL.get(name).invoke(model, args));
            log.add(name + Arrays.toString(args) + " = " + due);
            if (got != due) {
                System.out.println(String.join("\n", log));
                Check.same("behind these calls, the last one", got, due);
                Check.finish();
            }
            String key = name.equals("known") ? name + args[2] : name.equals("count") ? name + args[1] : name;
            if (!List.of("disk", "out", "end", "feed").contains(name)) {
                SEEN.merge(key + " " + due, 1, Integer::sum);
            }
            return due;
        } catch (ReflectiveOperationException e) {
            System.out.println(String.join("\n", log));
            throw new IllegalStateException(name + Arrays.toString(args), e);
        }
    }

    private static long answer(Object o) {
        return o instanceof Boolean ? (Boolean) o ? 1 : 0 : (Integer) o;
    }

    private void play(int run) {
        if (run % 10 == 9) {
            bencode();
            return;
        }
        begin();
        if (run % 10 == 8) {
            wild();
            return;
        }
        int kind = run % 3;
        if (run % 10 == 7) {
            flood(pick(4));
            flood(pick(4));
        }
        while (calls < MOST_CALLS - 120) {
            turn(kind);
        }
        while (calls < MOST_CALLS) {
            question();
        }
    }

    private int pick(int n) {
        return random.nextInt(n);
    }

    private void tape(byte[] row) {
        call("end", 0);
        for (int i = 0; i < row.length; i += 20) {
            byte[] part = Arrays.copyOfRange(row, i, i + 20);
            int[] n = new int[5];
            for (int k = 0; k < 20; k++) {
                n[k / 4] = n[k / 4] << 8 | part[k] & 255;
            }
            call("feed", n[0], n[1], n[2], n[3], n[4]);
        }
        call("end", row.length);
    }

    private void begin() {
        int[] lengths = {1, 40, 64, 65, 128, 200, 300, 500, 700, 1000, 1500, 2100};
        int length = lengths[pick(lengths.length)] + pick(60);
        int[] pieceLengths = {32, 33, 63, 64, 65, 100, 128, 129, 200, 256, 320, 500, 1024};
        do {
            pieceLength = pieceLengths[pick(pieceLengths.length)];
        } while (length > 64 * pieceLength);
        content = new byte[length];
        random.nextBytes(content);
        tape(content);
        call("make", pieceLength);
        if (pick(8) == 0) {
            call("take");
            if (pick(2) == 0) {
                call("alter", 60 + pick(18), pick(256));
            }
            call("load");
        }
        int full = pick(4);
        for (int k = 0; k < 4; k++) {
            if (pick(5) != 0) {
                call("client", k, k == full || pick(6) == 0);
            }
        }
        for (int a = 0; a < 4; a++) {
            for (int b = a + 1; b < 5; b++) {
                if (pick(3) != 0) {
                    call("connect", pick(2) == 0 ? a : b, a);
                    call("connect", b, a);
                }
            }
        }
    }

    private void turn(int kind) {
        int die = pick(100);
        if (die < 38) {
            int pair = busyPair();
            call("act", pair / 5, pair % 5);
        } else if (die < 50) {
            call("pump", 1 + pick(kind == 0 ? 60 : 6));
        } else if (die < 54) {
            int pair = busyPair();
            int bytes = Math.max(1, model.known(pair / 5, pair % 5, 8));
            call("meddle", pair % 5, pair / 5, kind == 0 ? pick(bytes) : Math.max(0, bytes - 1 - pick(60)), pick(256));
        } else if (die < 56) {
            call("connect", pick(5), pick(5));
        } else if (die < 57) {
            call(pick(2) == 0 ? "close" : "connect", pick(6) - 1, pick(6) - 1);
        } else if (die < 58 && pick(4) == 0) {
            call("client", pick(6) - 1, pick(3) == 0);
        } else if (die < 75) {
            outside(pick(4));
        } else if (die < 79) {
            listen(pick(5));
        } else if (die < 80) {
            flood(pick(4));
        } else if (die < 82) {
            call("pump", pick(3) == 0 ? pick(5000) - 1000 : 2000);
        } else {
            question();
        }
    }

    /** A client and one from whom something came, if there are such: 5 times the first and the second. */
    private int busyPair() {
        int pair = pick(20);
        for (int n = 0; n < 30 && model.known(pair / 5, pair % 5, 8) < 1; n++) {
            pair = pick(20);
        }
        return pair;
    }

    private void say(int a, byte[]... parts) {
        tape(Check.join(parts));
        if (call("say", a) == -1 && pick(3) == 0) {
            call("connect", a, 4);
        }
    }

    private byte[] hash() {
        call("hash");
        byte[] row = new byte[20];
        for (int i = 0; i < 20; i++) {
            row[i] = (byte) model.out(i);
        }
        return row;
    }

    private int pieces() {
        return (content.length + pieceLength - 1) / pieceLength;
    }

    private void outside(int a) {
        if (model.known(a, 4, 0) == 1 && model.known(a, 4, 1) == 0 && model.known(a, 4, 8) == 0) {
            byte[] hello = Check.hello(hash());
            hello[20 + pick(8)] = (byte) pick(256);
            if (pick(12) == 0) {
                hello[pick(68)] ^= (byte) (1 << pick(8));
            }
            if (pick(3) != 0) {
                say(a, hello, bitfield());
            } else {
                say(a, hello);
            }
        } else if (!replies.isEmpty() && pick(4) != 0) {
            say(a, replies.poll());
        } else {
            say(a, someMessage());
        }
    }

    private byte[] bitfield() {
        byte[] bits = new byte[(pieces() + 7) / 8];
        for (int p = 0; p < pieces(); p++) {
            if (pick(3) != 0) {
                bits[p / 8] |= (byte) (128 >> p % 8);
            }
        }
        if (pick(15) == 0) {
            bits[pick(bits.length)] ^= (byte) (1 << pick(8));
        }
        return Check.message(5, bits);
    }

    private byte[] piece(int p, int where, int count) {
        int begin = Math.min(content.length, p * pieceLength + where);
        byte[] data = Arrays.copyOfRange(content, begin, begin + count);
        if (pick(25) == 0) {
            data[pick(count)] ^= 1;
        }
        return Check.message(7, Check.number(p), Check.number(where), data);
    }

    private byte[] someMessage() {
        int p = pick(pieces());
        switch (pick(20)) {
            case 0: return Check.message(0);
            case 1: case 2: case 3: return Check.message(1);
            case 4: case 5: return Check.message(2);
            case 6: return Check.message(3);
            case 7: return Check.message(4, Check.number(p));
            case 8: return Check.message(4, Check.number(pick(20) == 0 ? -1 : p + pick(2)));
            case 9: return bitfield();
            case 10: case 11: return Check.request(p, 64 * pick(2), 1 + pick(Math.min(64, pieceLength)));
            case 12: return Check.request(p, 0, 1 + pick(32));
            case 13: return piece(p, pick(2) * 64, 1 + pick(64));
            case 14: return Check.message(8, Check.number(p), Check.number(0), Check.number(pick(64)));
            case 15: return Check.number(0);
            case 16: return Check.message(9 + pick(247), new byte[pick(20)]);
            case 17: return pick(4) == 0 ? Check.message(pick(9), new byte[pick(16)]) : Check.number(0);
            case 18: return pick(6) == 0 ? Check.number(pick(2) == 0 ? 99 + pick(4) : random.nextInt()) : Check.message(2);
            default: return pick(5) == 0 ? Check.request(pick(4) - 1, pick(70) - 2, pick(70)) : Check.message(1);
        }
    }

    private void listen(int a) {
        long n = call("hear", a);
        int at = 0;
        int[] row = new int[(int) Math.max(0, n)];
        for (int i = 0; i < row.length; i++) {
            row[i] = model.out(i);
        }
        if (row.length >= 20 && row[0] == 19) {
            at = 68;
        }
        while (at + 17 <= row.length) {
            int length = row[at + 2] * 256 + row[at + 3];
            if (length == 13 && row[at + 4] == 6) {
                replies.add(piece(row[at + 8], row[at + 11] * 256 + row[at + 12], row[at + 16]));
            }
            at += 4 + length;
        }
    }

    /** Asks for so much that the wire to somebody outside fills. */
    private void flood(int a) {
        if (calls > 300 || model.known(a, 4, 0) != 1) {
            return;
        }
        if (model.known(a, 4, 1) == 0) {
            say(a, Check.hello(hash()));
            call("pump", 100);
        }
        byte[][] many = new byte[20 + pick(40)][];
        for (int i = 0; i < many.length; i++) {
            many[i] = Check.request(pick(pieces()), 0, 1 + pick(32));
            if (pick(4) != 0) {
                many[i] = Check.request(0, 0, Math.min(content.length, Math.min(64, pieceLength)));
            }
        }
        say(a, Check.message(2), Check.join(many));
        call("pump", 200);
    }

    private void question() {
        int a = pick(20) == 0 ? pick(7) - 1 : pick(4);
        int b = pick(20) == 0 ? pick(7) - 1 : pick(5);
        int p = pick(20) == 0 ? pick(70) - 2 : pick(pieces());
        switch (pick(8)) {
            case 0: case 1: case 2: call("known", a, b, pick(20) == 0 ? pick(12) - 1 : pick(10)); break;
            case 3: call("piece", a, p); break;
            case 4: call("told", a, b, p); break;
            case 5: call("disk", a, pick(content.length + 2) - 1); break;
            case 6: call("count", a, pick(20) == 0 ? pick(7) - 1 : pick(5)); break;
            default: call("out", pick(100) - 1); break;
        }
    }

    /** Any call with any arguments. */
    private void wild() {
        List<String> names = new ArrayList<>(new TreeMap<>(DESK).keySet());
        int[] edges = {Integer.MIN_VALUE, -2, -1, 0, 1, 2, 3, 4, 5, 6, 20, 63, 64, 2000, 2001, 4000, 6000, Integer.MAX_VALUE};
        while (calls < MOST_CALLS) {
            String name = names.get(pick(names.size()));
            if (List.of("make", "load").contains(name) && pick(6) != 0) {
                continue;
            }
            Class<?>[] types = DESK.get(name).getParameterTypes();
            Object[] args = new Object[types.length];
            for (int i = 0; i < args.length; i++) {
                int n = pick(3) == 0 ? edges[pick(edges.length)] : pick(5);
                args[i] = types[i] == boolean.class ? (Object) (pick(2) == 0) : (Object) n;
            }
            call(name, args);
        }
    }

    private void bencode() {
        while (calls < MOST_CALLS - 12) {
            String info = "d" + (pick(3) == 0 ? "5:filesl" + files() + "e" : "6:lengthi" + pick(130) + "e")
                + "4:name" + string() + "12:piece lengthi" + (30 + pick(40)) + "e6:pieces" + sums() + "e";
            String all = pick(6) == 0 ? value(0) : "d" + (pick(2) == 0 ? "1:a" + value(1) : "") + "4:info" + info + "e";
            StringBuilder text = new StringBuilder(all);
            for (int n = pick(3) - 1; n > 0 && text.length() > 0; n--) {
                int at = pick(text.length());
                switch (pick(3)) {
                    case 0: text.setCharAt(at, "0123456789:eidl-x".charAt(pick(17))); break;
                    case 1: text.deleteCharAt(at); break;
                    default: text.insert(at, "0123456789:eidl-x".charAt(pick(17))); break;
                }
            }
            tape(Check.text(text.toString()));
            call("load");
            call("place");
            call("torrent", pick(6) - 1);
            call("file", pick(5) - 1, pick(5) - 1);
            call("hash");
            call("out", pick(20));
        }
    }

    private String files() {
        StringBuilder files = new StringBuilder();
        for (int n = pick(4); n >= 0; n--) {
            files.append("d6:lengthi").append(pick(50)).append("e4:pathl").append(string()).append(pick(3) == 0 ? string() : "")
                .append("ee");
        }
        return files.toString();
    }

    private String sums() {
        int n = 20 * (1 + pick(3)) + (pick(8) == 0 ? 1 : 0);
        return n + ":" + "s".repeat(n);
    }

    private String string() {
        int n = pick(10) == 0 ? pick(70) : 1 + pick(3);
        return n + ":" + "q".repeat(n);
    }

    private String value(int open) {
        switch (pick(open > 8 ? 2 : 5)) {
            case 0: return "i" + (random.nextInt() >> pick(31)) + "e";
            case 1: return string();
            case 2: return "l" + value(open + 1) + (pick(2) == 0 ? value(open + 1) : "") + "e";
            case 3: return "d1:a" + value(open + 1) + (pick(2) == 0 ? "2:ab" + value(open + 1) : "") + "e";
            default: return "l" + value(open + 1) + "e";
        }
    }
}
