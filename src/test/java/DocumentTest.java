import java.io.IOException;
import java.nio.file.Files;
import java.nio.file.Path;
import java.util.ArrayList;
import java.util.BitSet;
import java.util.List;
import java.util.Map;
import java.util.TreeMap;
import java.util.regex.Matcher;
import java.util.regex.Pattern;
import java.util.stream.Stream;

/** Each word of the document's promises and terms stands in the name of a test: test(promise, "words"). */
public final class DocumentTest {
    private static final Path TESTS = Path.of("src", "test", "java");
    private static final String TEXT = "\"(?:[^\"\\\\]|\\\\.)*\"";
    private static final Pattern NAME = Pattern.compile(
            "\\btest\\(([0-9]+),\\s*(" + TEXT + "(?:\\s*\\+\\s*" + TEXT + ")*)\\)");
    private static final int PROMISES = 44;

    private static final Map<String, BitSet> named = new TreeMap<>();
    private static int wrong;
    private static int names;

    public static void main(String[] args) throws IOException {
        Map<String, String> sections = Bounds.sections();
        if (sections.isEmpty()) {
            System.out.println("there is no document to look at");
            return;
        }
        try (Stream<Path> files = Files.list(TESTS)) {
            for (Path file : files.sorted().toList()) {
                mark(sections, Files.readString(file));
            }
        }
        for (int promise = 1; promise <= PROMISES; promise++) {
            look(sections, "Promise " + promise);
        }
        look(sections, "Terms");
        look(sections, "What it is");
        if (sections.containsKey("Promise " + (PROMISES + 1))) {
            tell("a promise that is not looked at");
        }
        System.out.println(wrong == 0 ? "each word of the document has a test, of " + names
                : wrong + " stretches of the document have no test");
        if (wrong != 0) {
            System.exit(1);
        }
    }

    private static void tell(String what) {
        wrong++;
        System.out.println("document: " + what);
    }

    /** Marks what the names of a file's tests take from the promise that they name, or from what all share. */
    private static void mark(Map<String, String> sections, String source) {
        Matcher name = NAME.matcher(source);
        while (name.find()) {
            names++;
            StringBuilder words = new StringBuilder();
            Matcher text = Pattern.compile(TEXT).matcher(name.group(2));
            while (text.find()) {
                words.append(text.group(), 1, text.group().length() - 1);
            }
            for (String section : List.of("Promise " + name.group(1), "Terms", "What it is")) {
                String said = sections.getOrDefault(section, "");
                BitSet marks = named.computeIfAbsent(section, key -> new BitSet());
                for (int at = said.indexOf(words.toString()); at >= 0; at = said.indexOf(words.toString(), at + 1)) {
                    marks.set(at, at + words.length());
                }
            }
        }
    }

    /** Tells each stretch of words that no test names. */
    private static void look(Map<String, String> sections, String section) {
        String said = sections.getOrDefault(section, "");
        if (said.isEmpty()) {
            tell(section + " is not there");
        }
        BitSet marks = named.getOrDefault(section, new BitSet());
        List<String> unnamed = new ArrayList<>();
        int from = first(section, said);
        int to = last(said);
        for (int at = from; at < to; at++) {
            boolean begins = at == from || marks.get(at - 1);
            if (!marks.get(at) && begins) {
                int end = marks.nextSetBit(at) < 0 ? to : Math.min(to, marks.nextSetBit(at));
                unnamed.add(said.substring(at, end));
            }
        }
        for (String words : unnamed) {
            // What is left of the frame: headings of the terms, the marks of a text block.
            if (!words.replaceAll("==== [1-3]\\.|```text|## Terms", "").replaceAll("[^A-Za-z0-9]", "").isEmpty()) {
                tell(section + ", no test names '" + words.strip() + "'");
            }
        }
    }

    /** Behind a promise's signature, and behind what the document is about: the promises say that all once more. */
    private static int first(String section, String said) {
        switch (section) {
            case "Terms":
                return 0;
            case "What it is":
                return Math.max(0, said.indexOf("An object is used"));
            default:
                return Math.max(0, said.indexOf("`: "));
        }
    }

    /** The terms end with the constants and the headings of the face: FaceTest looks at those. */
    private static int last(String said) {
        int at = said.indexOf("The constants: ");
        return at < 0 ? said.length() : at;
    }
}
