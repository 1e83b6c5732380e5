import java.io.IOException;
import java.lang.reflect.Constructor;
import java.lang.reflect.Field;
import java.lang.reflect.Method;
import java.lang.reflect.Modifier;
import java.nio.file.Files;
import java.nio.file.Path;
import java.util.Arrays;
import java.util.Set;
import java.util.TreeSet;
import java.util.regex.Pattern;

/** The public face, and what the rules of the language leave out that can be seen in the text. */
public final class FaceTest {
    private static final String[] FACE = {"int feed(int,int,int,int,int)", "int end(int)", "int take()", "boolean alter(int,int)",
        "int out(int)", "int digest()", "int make(int)", "int load()", "int place()", "int torrent(int)", "int file(int,int)",
        "int hash()", "boolean client(int,boolean)", "boolean connect(int,int)", "boolean close(int,int)", "int say(int)",
        "int hear(int)", "boolean meddle(int,int,int,int)", "int act(int,int)", "int pump(int)", "int known(int,int,int)",
        "int piece(int,int)", "int told(int,int,int)", "int disk(int,int)", "int count(int,int)"};

    public static void main(String[] args) throws IOException {
        Set<String> names = new TreeSet<>();
        Set<String> seen = new TreeSet<>();
        for (Method m : SwarmDesk.class.getDeclaredMethods()) {
            if (!Modifier.isPrivate(m.getModifiers())) {
                seen.add(m.getReturnType() + " " + m.getName() + Arrays.toString(m.getParameterTypes()).replace('[', '(')
                    .replace(']', ')').replace(" ", ""));
                names.add(m.getName());
                Check.yes("public " + m, Modifier.isPublic(m.getModifiers()) && !Modifier.isStatic(m.getModifiers()));
            }
        }
        Check.yes("the methods are " + seen, seen.equals(new TreeSet<>(Arrays.asList(FACE))));
        for (Method m : SwarmDesk.class.getDeclaredMethods()) {
            Check.no("a private method with a public one's name: " + m,
                Modifier.isPrivate(m.getModifiers()) && names.contains(m.getName()));
        }
        for (Field f : SwarmDesk.class.getDeclaredFields()) {
            Check.same("is " + f + " public", Modifier.isPublic(f.getModifiers()) ? 1 : 0, f.getName().equals("NONE") ? 1 : 0);
            Check.yes("private or NONE: " + f, Modifier.isPrivate(f.getModifiers()) || f.getName().equals("NONE"));
        }
        Constructor<?>[] made = SwarmDesk.class.getDeclaredConstructors();
        Check.yes("one public constructor", made.length == 1 && Modifier.isPublic(made[0].getModifiers())
            && made[0].getParameterCount() == 0);
        Check.yes("public and final", Modifier.isPublic(SwarmDesk.class.getModifiers())
            && Modifier.isFinal(SwarmDesk.class.getModifiers()));
        words(Files.readString(Path.of("src/main/java/SwarmDesk.java")));
        Check.finish();
    }

    private static void words(String source) {
        String code = source.replaceAll("(?s)/\\*.*?\\*/", "").replaceAll("//[^\n]*", "").replaceAll("\"[^\"\n]*\"", "\"\"");
        for (String word : new String[] {"throw", "throws", "try", "catch", "finally", "synchronized", "assert", "->", "::", "static \\{",
            "System\\.(?!arraycopy)", "\\w+Exact", "hashCode", "toString", "package"}) {
            Check.no("the source has " + word, Pattern.compile(Character.isLetter(word.charAt(0)) ? "\\b" + word : word)
                .matcher(code).find());
        }
    }
}
