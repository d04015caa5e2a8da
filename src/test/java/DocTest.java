import java.io.IOException;
import java.nio.file.DirectoryStream;
import java.nio.file.Files;
import java.nio.file.Path;
import java.util.ArrayList;
import java.util.BitSet;
import java.util.List;
import java.util.regex.Matcher;
import java.util.regex.Pattern;

/** The class's face is the document's (-Ddoc=), word for word and in its order; and which sentences have no test is told. */
public final class DocTest extends Check {
    private static final Pattern QUOTED = Pattern.compile("says\\(\"((?:[^\"\\\\]|\\\\.)*)\"\\)");
    private static final Pattern MEMBER = Pattern.compile("^(?:    )?public [^=]*?(\\w+) *(?:\\(|=|\\{)[^;{]*");
    private static final Pattern HEADING = Pattern.compile("Ahead of the calls ([^.]*?) the interface says: (---- [^.]*)\\.");
    private static final Pattern PROMISE = Pattern.compile("## Promise \\d+: [^\\n]*\\n\\n`[^`]*`:");

    public static void main(String[] args) throws IOException {
        String document = Files.readString(Path.of(System.getProperty("doc", "../shared/DOC.md")));
        String source = Files.readString(Path.of(args[0]));
        face(document, source);
        order(document, source);
        headings(document, source);
        sentences(document, Path.of("src/test/java"));
        end("DocTest");
    }

    private static String faceOf(String document) {
        int start = document.indexOf("```java\n") + 8;
        return document.substring(start, document.indexOf("```", start));
    }

    /** The lines that begin a public member or the class, without their bodies. */
    private static List<String> members(String code) {
        List<String> all = new ArrayList<>();
        for (String line : code.split("\n")) {
            Matcher m = MEMBER.matcher(line);
            if (m.find()) all.add(line.replaceAll("[{;].*", "").trim());
        }
        return all;
    }

    private static void face(String document, String source) {
        says("## The public face");
        List<String> due = members(faceOf(document)), seen = members(source);
        is(54, due.size());
        is(due.size(), seen.size());
        for (int i = 0; i < Math.min(due.size(), seen.size()); i++) {
            if (!due.get(i).equals(seen.get(i))) fails("the face has " + seen.get(i) + ", due is " + due.get(i));
        }
        holds(document.contains("public static final int BAD = -1, FULL = -2, NONE = -3, STATE = -4;"));
        holds(source.contains("public static final int BAD = -1, FULL = -2, NONE = -3, STATE = -4;"));
    }

    /** Each promise is about the next call of the face. */
    private static void order(String document, String source) {
        says("## Promise 52: again");
        int at = -1;
        List<String> members = members(faceOf(document));
        for (int p = 2; p <= 52; p++) {
            String call = members.get(p + 1).replace("public ", "");
            int promise = document.indexOf("## Promise " + p + ": ");
            holds(promise >= 0 && document.startsWith("`" + call + "`:", document.indexOf('`', promise)));
            int stands = source.indexOf("public " + call);
            holds(stands > at);
            at = stands;
        }
    }

    private static void headings(String document, String source) {
        says("the interface says: ---- ");
        int headings = 0;
        for (Matcher m = HEADING.matcher(document); m.find(); headings++) {
            int said = source.indexOf("// " + m.group(2) + "\n");
            holds(said >= 0);
            int next = source.indexOf("// ----", said + 1);
            String part = source.substring(said, next < 0 ? source.length() : next);
            for (String name : m.group(1).split("[`, ]+")) {
                if (!name.isEmpty() && !part.contains("public int " + name + "(")) fails(name + " isn't behind " + m.group(2));
            }
        }
        is(9, headings);
    }

    /** What of 'Terms' and of the promises no test quotes: a note, as the document may be newer than the tests. */
    private static void sentences(String document, Path tests) throws IOException {
        BitSet quoted = new BitSet();
        int quotes = 0;
        try (DirectoryStream<Path> files = Files.newDirectoryStream(tests, "*Test.java")) {
            for (Path file : files) {
                for (Matcher m = QUOTED.matcher(Files.readString(file)); m.find(); quotes++) {
                    mark(quoted, document, m.group(1).replace("\\\"", "\"").replace("\\n", "\n"));
                }
            }
        }
        for (Pattern tried : new Pattern[] {PROMISE, HEADING}) {
            for (Matcher m = tried.matcher(document); m.find(); ) quoted.set(m.start(), m.end());
        }
        int from = document.indexOf("\n```text", document.indexOf("## Terms")), to = document.indexOf("## Not promised");
        holds(from >= 0 && to > from && quotes > 150);
        for (int i = quoted.nextClearBit(document.indexOf("## Terms")); i < to; i = quoted.nextClearBit(i)) {
            int end = quoted.nextSetBit(i);
            if (end < 0 || end > to) end = to;
            String left = document.substring(i, end).replaceAll("```text|```|## Terms|======== 2 THE RULES are a TEXT\\.|\\(3\\)|, and ", "");
            if (left.matches("(?s).*[A-Za-z0-9].*")) System.out.println("note: no test quotes: " + left.trim());
            i = end;
        }
    }

    private static void mark(BitSet quoted, String document, String words) {
        for (int i = document.indexOf(words); i >= 0; i = document.indexOf(words, i + 1)) quoted.set(i, i + words.length());
    }
}
