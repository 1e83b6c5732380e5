import java.io.ByteArrayOutputStream;
import java.util.ArrayList;
import java.util.Arrays;
import java.util.HashMap;
import java.util.LinkedHashMap;
import java.util.LinkedHashSet;
import java.util.List;
import java.util.Map;
import java.util.Set;
import java.util.TreeMap;
import java.util.TreeSet;

/** The document a second time, with Java's library and without a thought for speed or room. */
public final class Model {
    private static final class Fault extends RuntimeException {
        private static final long serialVersionUID = 1L;
        final int place;

        Fault(int place) {
            this.place = place;
        }
    }

    private static final class Meta {
        int length;
        int pieceLength;
        List<int[]> files = new ArrayList<>();
        byte[] sums;
        byte[] hash;

        int pieces() {
            return (length + pieceLength - 1) / pieceLength;
        }

        int size(int p) {
            return Math.min(pieceLength, length - p * pieceLength);
        }
    }

    private static final class Peer {
        byte[] disk;
        Set<Integer> has = new TreeSet<>();
        Set<String> came = new LinkedHashSet<>();
        int taken;
        int sent;
        int failed;
        int unasked;
    }

    private static final class View {
        boolean hello;
        boolean talked;
        boolean chokes = true;
        boolean choked = true;
        boolean interested;
        boolean otherInterested;
        Set<Integer> has = new TreeSet<>();
        Set<String> asked = new LinkedHashSet<>();
        List<Integer> wire = new ArrayList<>();
    }

    private byte[] tape = {};
    private byte[] out = {};
    private byte[] content;
    private Meta meta;
    private int place = -1;
    private final Map<Integer, Peer> peers = new TreeMap<>();
    /** What "a b" stands for: what a knows of b, with the wire from b to a. */
    private final Map<String, View> views = new HashMap<>();
    private final Map<String, Integer> reasons = new HashMap<>();

    // bytes

    public int feed(int a, int b, int c, int d, int e) {
        if (tape.length + 20 > 6000) {
            return -1;
        }
        tape = Check.join(tape, Check.number(a), Check.number(b), Check.number(c), Check.number(d), Check.number(e));
        return tape.length;
    }

    public int end(int n) {
        if (n < 0 || n > tape.length) {
            return -1;
        }
        tape = Arrays.copyOf(tape, n);
        return n;
    }

    public int take() {
        tape = out.clone();
        return tape.length;
    }

    public boolean alter(int i, int v) {
        if (i < 0 || i >= tape.length) {
            return false;
        }
        tape[i] = (byte) v;
        return true;
    }

    public int out(int i) {
        return i < 0 || i >= out.length ? -1 : out[i] & 255;
    }

    public int digest() {
        out = Check.sha(taken());
        return 20;
    }

    private byte[] taken() {
        byte[] row = tape;
        tape = new byte[0];
        return row;
    }

    // metainfo

    public int make(int pieceLength) {
        byte[] row = taken();
        if (row.length < 1 || row.length > 4096 || pieceLength < 32 || pieceLength > 1024
            || Math.ceil((double) row.length / pieceLength) > 64) {
            return -1;
        }
        content = row;
        meta = new Meta();
        meta.length = row.length;
        meta.pieceLength = pieceLength;
        meta.sums = Check.pieceSums(row, pieceLength);
        byte[] info = Check.join(Check.text("d6:lengthi" + row.length + "e4:name1:a12:piece lengthi" + pieceLength
            + "e6:pieces" + meta.sums.length + ":"), meta.sums, Check.text("e"));
        meta.hash = Check.sha(info);
        out = Check.join(Check.text("d4:info"), info, Check.text("e"));
        nobody();
        return out.length;
    }

    private void nobody() {
        peers.clear();
        views.clear();
        reasons.clear();
    }

    public int load() {
        byte[] row = taken();
        place = -1;
        Parser parser = new Parser(row);
        Object value;
        try {
            value = parser.all();
        } catch (Fault f) {
            place = f.place;
            return 1;
        }
        Meta next = new Meta();
        int fault = read(value, next);
        if (fault != 0) {
            return fault;
        }
        next.hash = Check.sha(Arrays.copyOfRange(row, parser.infoBegin, parser.infoEnd));
        meta = next;
        content = null;
        nobody();
        return 0;
    }

    private static boolean isText(Object o, int least, int most) {
        return o instanceof String && ((String) o).length() >= least && ((String) o).length() <= most;
    }

    private static boolean isNumber(Object o, int least, int most) {
        return o instanceof Integer && (Integer) o >= least && (Integer) o <= most;
    }

    private static int read(Object value, Meta next) {
        if (!(value instanceof Map) || !(((Map<?, ?>) value).get("info") instanceof Map)) {
            return 2;
        }
        Map<?, ?> info = (Map<?, ?>) ((Map<?, ?>) value).get("info");
        if (!isText(info.get("name"), 1, 60)) {
            return 3;
        }
        if (!isNumber(info.get("piece length"), 32, 1024)) {
            return 4;
        }
        next.pieceLength = (Integer) info.get("piece length");
        if (info.containsKey("length") == info.containsKey("files")) {
            return 5;
        }
        if (info.containsKey("length")) {
            if (!isNumber(info.get("length"), 1, 4096)) {
                return 5;
            }
            next.length = (Integer) info.get("length");
        } else {
            if (!(info.get("files") instanceof List)) {
                return 5;
            }
            List<?> files = (List<?>) info.get("files");
            if (files.size() < 1 || files.size() > 16) {
                return 5;
            }
            for (Object file : files) {
                if (!(file instanceof Map)) {
                    return 5;
                }
                Object length = ((Map<?, ?>) file).get("length");
                Object path = ((Map<?, ?>) file).get("path");
                if (!isNumber(length, 0, 4096) || !(path instanceof List)) {
                    return 5;
                }
                List<?> names = (List<?>) path;
                if (names.size() < 1 || names.size() > 8 || !names.stream().allMatch(n -> isText(n, 1, 60))) {
                    return 5;
                }
                next.files.add(new int[] {(Integer) length, next.length, names.size()});
                next.length += (Integer) length;
            }
            if (next.length < 1 || next.length > 4096) {
                return 5;
            }
        }
        int size = 20 * next.pieces();
        if (next.pieces() > 64 || !isText(info.get("pieces"), size, size)) {
            return 6;
        }
        next.sums = Check.text((String) info.get("pieces"));
        return 0;
    }

    private static final class Parser {
        private final byte[] row;
        private int at = 0;
        int infoBegin;
        int infoEnd;

        Parser(byte[] row) {
            this.row = row;
        }

        private char peek() {
            if (at >= row.length) {
                throw new Fault(row.length);
            }
            return (char) (row[at] & 255);
        }

        Object all() {
            Object value = value(0);
            if (at < row.length) {
                throw new Fault(at);
            }
            return value;
        }

        private String digits(int most) {
            StringBuilder digits = new StringBuilder();
            while (at < row.length && Character.isDigit(peek())) {
                if (digits.length() == most || digits.toString().equals("0")) {
                    throw new Fault(at);
                }
                digits.append(peek());
                at++;
            }
            if (digits.length() == 0) {
                throw new Fault(at);
            }
            return digits.toString();
        }

        private void expect(char c) {
            if (peek() != c) {
                throw new Fault(at);
            }
            at++;
        }

        private String string() {
            int begin = at;
            int n = Integer.parseInt(digits(4));
            expect(':');
            if (at + n > row.length) {
                throw new Fault(begin);
            }
            StringBuilder text = new StringBuilder();
            for (int i = 0; i < n; i++) {
                text.append((char) (row[at++] & 255));
            }
            return text.toString();
        }

        private Object value(int open) {
            char c = peek();
            if (c == 'i') {
                at++;
                boolean minus = peek() == '-';
                if (minus) {
                    at++;
                    if (peek() == '0') {
                        throw new Fault(at);
                    }
                }
                int n = Integer.parseInt(digits(9));
                expect('e');
                return minus ? -n : n;
            }
            if (c == 'l' || c == 'd') {
                if (open == 8) {
                    throw new Fault(at);
                }
                at++;
                Object inside = c == 'l' ? list(open + 1) : dict(open + 1);
                at++;
                return inside;
            }
            if (Character.isDigit(c)) {
                return string();
            }
            throw new Fault(at);
        }

        private List<Object> list(int open) {
            List<Object> list = new ArrayList<>();
            while (peek() != 'e') {
                list.add(value(open));
            }
            return list;
        }

        private Map<String, Object> dict(int open) {
            Map<String, Object> map = new LinkedHashMap<>();
            String last = null;
            while (peek() != 'e') {
                int begin = at;
                String key = string();
                if (last != null && last.compareTo(key) >= 0) {
                    throw new Fault(begin);
                }
                last = key;
                int from = at;
                map.put(key, value(open));
                if (open == 1 && key.equals("info")) {
                    infoBegin = from;
                    infoEnd = at;
                }
            }
            return map;
        }
    }

    public int place() {
        return place;
    }

    public int torrent(int what) {
        if (meta == null || what < 0 || what > 3) {
            return -1;
        }
        return new int[] {meta.length, meta.pieceLength, meta.pieces(), meta.files.size()}[what];
    }

    public int file(int k, int what) {
        if (meta == null || k < 0 || k >= meta.files.size() || what < 0 || what > 2) {
            return -1;
        }
        return meta.files.get(k)[what];
    }

    public int hash() {
        if (meta == null) {
            return -1;
        }
        out = meta.hash.clone();
        return 20;
    }

    // clients

    private View view(int a, int b) {
        return views.get(a + " " + b);
    }

    public boolean client(int k, boolean full) {
        if (k < 0 || k > 3 || meta == null || full && content == null) {
            return false;
        }
        for (int b = 0; b < 5; b++) {
            closed(k, b, 0);
        }
        Peer peer = new Peer();
        peer.disk = full ? content.clone() : new byte[meta.length];
        for (int p = 0; full && p < meta.pieces(); p++) {
            peer.has.add(p);
        }
        peers.put(k, peer);
        return true;
    }

    private void closed(int a, int b, int reason) {
        views.remove(a + " " + b);
        views.remove(b + " " + a);
        reasons.put(a + " " + b, reason);
        reasons.put(b + " " + a, reason);
    }

    public boolean connect(int a, int b) {
        if (a == b || view(a, b) != null || !(a == 4 || peers.containsKey(a)) || !(b == 4 || peers.containsKey(b))) {
            return false;
        }
        views.put(a + " " + b, new View());
        views.put(b + " " + a, new View());
        for (int[] way : new int[][] {{a, b}, {b, a}}) {
            if (way[0] != 4) {
                send(way[0], way[1], Check.join(Check.bytes(19), Check.text("BitTorrent protocol"), new byte[8], meta.hash,
                    Check.text("-JD0001-00000000000" + way[0])));
            }
        }
        return true;
    }

    public boolean close(int a, int b) {
        if (view(a, b) == null) {
            return false;
        }
        closed(a, b, 0);
        return true;
    }

    /** False if the connection is closed by it. */
    private boolean send(int a, int b, byte[] row) {
        View target = view(b, a);
        for (byte v : row) {
            target.wire.add(v & 255);
        }
        if (target.wire.size() > 4000) {
            closed(a, b, 8);
            return false;
        }
        return true;
    }

    public int say(int a) {
        byte[] row = taken();
        View view = view(a, 4);
        if (view == null || view.wire.size() + row.length > 4000) {
            return -1;
        }
        for (byte v : row) {
            view.wire.add(v & 255);
        }
        return view.wire.size();
    }

    public int hear(int a) {
        View view = view(4, a);
        if (view == null) {
            return -1;
        }
        out = row(view.wire);
        view.wire.clear();
        return out.length;
    }

    private static byte[] row(List<Integer> list) {
        ByteArrayOutputStream all = new ByteArrayOutputStream();
        list.forEach(all::write);
        return all.toByteArray();
    }

    public boolean meddle(int a, int b, int i, int v) {
        View view = view(b, a);
        if (view == null || i < 0 || i >= view.wire.size()) {
            return false;
        }
        view.wire.set(i, v & 255);
        return true;
    }

    public int act(int a, int b) {
        View view = view(a, b);
        if (view == null || a == 4) {
            return -1;
        }
        byte[] row = row(view.wire);
        int whole = 68;
        if (view.hello) {
            if (row.length < 4) {
                return -1;
            }
            long n = number(row, 0);
            whole = n > 100 ? 4 : 4 + (int) n;
        }
        if (row.length < whole) {
            return -1;
        }
        view.wire.subList(0, whole).clear();
        int what = does(a, b, view, Arrays.copyOf(row, whole));
        if (what > 20) {
            closed(a, b, what - 20);
        }
        for (int o = 0; o < 5; o++) {
            View other = view(a, o);
            if (other != null && other.hello && interest(a, o, other) && choking(a, o, other)) {
                asking(a, o, other);
            }
        }
        return what;
    }

    private static long number(byte[] row, int at) {
        long n = 0;
        for (int i = at; i < at + 4; i++) {
            n = n * 256 + (row[i] & 255);
        }
        return n;
    }

    private int does(int a, int b, View view, byte[] m) {
        Peer peer = peers.get(a);
        if (!view.hello) {
            byte[] head = Check.join(Check.bytes(19), Check.text("BitTorrent protocol"));
            if (!Arrays.equals(Arrays.copyOf(m, 20), head) || !Arrays.equals(Arrays.copyOfRange(m, 28, 48), meta.hash)) {
                return 21;
            }
            view.hello = true;
            if (!peer.has.isEmpty()) {
                byte[] bits = new byte[(meta.pieces() + 7) / 8];
                for (int p : peer.has) {
                    bits[p / 8] |= (byte) (128 >> p % 8);
                }
                send(a, b, Check.message(5, bits));
            }
            return 10;
        }
        long n = number(m, 0);
        if (n > 100) {
            return 22;
        }
        if (n == 0) {
            return 9;
        }
        boolean talked = view.talked;
        view.talked = true;
        int kind = m[4] & 255;
        if (kind > 8) {
            return 11;
        }
        int bitBytes = (meta.pieces() + 7) / 8;
        long[] due = {1, 1, 1, 1, 5, 1 + bitBytes, 13, n, 13};
        if (n != due[kind] || kind == 7 && (n < 10 || n > 73)) {
            return 23;
        }
        if (kind == 0) {
            view.choked = true;
            view.asked.clear();
        } else if (kind == 1) {
            view.choked = false;
        } else if (kind == 2 || kind == 3) {
            view.otherInterested = kind == 2;
        } else if (kind == 4) {
            if (number(m, 5) >= meta.pieces()) {
                return 24;
            }
            view.has.add((int) number(m, 5));
        } else if (kind == 5) {
            Set<Integer> has = new TreeSet<>();
            for (int p = 0; p < 8 * bitBytes; p++) {
                if ((m[5 + p / 8] & 128 >> p % 8) != 0) {
                    has.add(p);
                }
            }
            if (talked || has.stream().anyMatch(p -> p >= meta.pieces())) {
                return 25;
            }
            view.has = has;
        } else if (kind == 6) {
            return request(a, b, view, number(m, 5), number(m, 9), number(m, 13));
        } else if (kind == 7) {
            return block(a, view, number(m, 5), number(m, 9), Arrays.copyOfRange(m, 13, m.length));
        }
        return kind;
    }

    private int request(int a, int b, View view, long p, long where, long count) {
        if (p >= meta.pieces() || count == 0 || count > 64 || where + count > meta.size((int) p)) {
            return 26;
        }
        Peer peer = peers.get(a);
        if (!view.chokes && peer.has.contains((int) p)) {
            int begin = (int) (p * meta.pieceLength + where);
            peer.sent++;
            send(a, b, Check.message(7, Check.number(p), Check.number(where),
                Arrays.copyOfRange(peer.disk, begin, begin + (int) count)));
        }
        return 6;
    }

    private int block(int a, View view, long piece, long where, byte[] data) {
        Peer peer = peers.get(a);
        if (!view.asked.remove(piece + ":" + where + ":" + data.length)) {
            peer.unasked++;
            return 7;
        }
        int p = (int) piece;
        peer.taken++;
        peer.came.add(p + ":" + where);
        System.arraycopy(data, 0, peer.disk, p * meta.pieceLength + (int) where, data.length);
        for (int w = 0; w < meta.size(p); w += 64) {
            if (!peer.came.contains(p + ":" + w)) {
                return 7;
            }
        }
        int begin = p * meta.pieceLength;
        byte[] sum = Check.sha(Arrays.copyOfRange(peer.disk, begin, begin + meta.size(p)));
        if (!Arrays.equals(sum, Arrays.copyOfRange(meta.sums, 20 * p, 20 * p + 20))) {
            peer.came.removeIf(c -> c.startsWith(p + ":"));
            peer.failed++;
            return 27;
        }
        peer.has.add(p);
        for (int o = 0; o < 5; o++) {
            if (view(a, o) != null && view(a, o).hello) {
                send(a, o, Check.message(4, Check.number(p)));
            }
        }
        return 7;
    }

    private boolean interest(int a, int o, View other) {
        boolean wants = !peers.get(a).has.containsAll(other.has);
        if (wants == other.interested) {
            return true;
        }
        other.interested = wants;
        return send(a, o, Check.message(wants ? 2 : 3));
    }

    private boolean choking(int a, int o, View other) {
        int open = 0;
        for (int k = 0; k < 5; k++) {
            open += view(a, k) != null && !view(a, k).chokes ? 1 : 0;
        }
        if (other.otherInterested && other.chokes && open < 3) {
            other.chokes = false;
            return send(a, o, Check.message(1));
        }
        if (!other.otherInterested && !other.chokes) {
            other.chokes = true;
            return send(a, o, Check.message(0));
        }
        return true;
    }

    private void asking(int a, int o, View other) {
        while (view(a, o) == other && other.interested && !other.choked && other.asked.size() < 4) {
            String best = null;
            int fewest = 99;
            for (int p : other.has) {
                String block = peers.get(a).has.contains(p) ? null : freeBlock(a, p);
                int holders = 0;
                for (int k = 0; k < 5; k++) {
                    holders += view(a, k) != null && view(a, k).hello && view(a, k).has.contains(p) ? 1 : 0;
                }
                if (block != null && holders < fewest) {
                    best = block;
                    fewest = holders;
                }
            }
            if (best == null) {
                return;
            }
            other.asked.add(best);
            String[] parts = best.split(":");
            send(a, o, Check.request(Long.parseLong(parts[0]), Long.parseLong(parts[1]), Long.parseLong(parts[2])));
        }
    }

    private String freeBlock(int a, int p) {
        for (int w = 0; w < meta.size(p); w += 64) {
            String block = p + ":" + w + ":" + Math.min(64, meta.size(p) - w);
            boolean asked = peers.get(a).came.contains(p + ":" + w);
            for (int k = 0; k < 5; k++) {
                asked |= view(a, k) != null && view(a, k).asked.contains(block);
            }
            if (!asked) {
                return block;
            }
        }
        return null;
    }

    public int pump(int n) {
        if (n < 1 || n > 2000) {
            return -1;
        }
        int done = 0;
        while (true) {
            int before = done;
            for (int a = 0; a < 4; a++) {
                for (int b = 0; b < 5; b++) {
                    if (done == n) {
                        return done;
                    }
                    done += act(a, b) != -1 ? 1 : 0;
                }
            }
            if (done == before) {
                return done;
            }
        }
    }

    // what is told

    public int known(int a, int b, int what) {
        if (!peers.containsKey(a) || b < 0 || b > 4 || a == b || what < 0 || what > 9) {
            return -1;
        }
        if (what == 9) {
            return reasons.getOrDefault(a + " " + b, 0);
        }
        View v = view(a, b);
        if (v == null) {
            return 0;
        }
        return new int[] {1, bit(v.hello), bit(v.chokes), bit(v.interested), bit(v.choked), bit(v.otherInterested), v.has.size(),
            v.asked.size(), v.wire.size()}[what];
    }

    private static int bit(boolean b) {
        return b ? 1 : 0;
    }

    private boolean isPiece(int p) {
        return meta != null && p >= 0 && p < meta.pieces();
    }

    public int piece(int a, int p) {
        Peer peer = peers.get(a);
        if (peer == null || !isPiece(p)) {
            return -1;
        }
        return peer.has.contains(p) ? 2 : peer.came.stream().anyMatch(c -> c.startsWith(p + ":")) ? 1 : 0;
    }

    public int told(int a, int b, int p) {
        if (!peers.containsKey(a) || view(a, b) == null || !isPiece(p)) {
            return -1;
        }
        return bit(view(a, b).has.contains(p));
    }

    public int disk(int a, int i) {
        Peer peer = peers.get(a);
        return peer == null || i < 0 || i >= peer.disk.length ? -1 : peer.disk[i] & 255;
    }

    public int count(int a, int what) {
        Peer peer = peers.get(a);
        if (peer == null || what < 0 || what > 4) {
            return -1;
        }
        return new int[] {peer.has.size(), peer.taken, peer.sent, peer.failed, peer.unasked}[what];
    }
}
