import java.util.Map;
import java.util.TreeMap;

/** METAINFO for the tests: one that is right, and others that differ from it in a KEY or two. */
final class Draft {
    private final Map<String, String> info = new TreeMap<>();

    private Draft() {
    }

    /** One PIECE of 32 bytes. */
    static Draft right() {
        return new Draft().with("length", number(32)).with("name", text(1)).with("piece length", number(32))
            .with("pieces", text(20));
    }

    /** The same, with these files in place of the length. */
    static Draft filed(String... files) {
        return right().without("length").with("files", list(files));
    }

    Draft with(String key, String value) {
        info.put(key, value);
        return this;
    }

    Draft without(String key) {
        info.remove(key);
        return this;
    }

    String info() {
        StringBuilder all = new StringBuilder("d");
        info.forEach((key, value) -> all.append(text(key)).append(value));
        return all.append("e").toString();
    }

    String text() {
        return "d" + text("info") + info() + "e";
    }

    static String number(long n) {
        return "i" + n + "e";
    }

    static String text(String bytes) {
        return bytes.length() + ":" + bytes;
    }

    static String text(int length) {
        return text("x".repeat(length));
    }

    static String list(String... values) {
        return "l" + String.join("", values) + "e";
    }

    /** A file of so many bytes, with a path of one STRING. */
    static String file(long length) {
        return file(number(length), list(text(1)));
    }

    static String file(String length, String path) {
        return "d" + text("length") + length + text("path") + path + "e";
    }
}
