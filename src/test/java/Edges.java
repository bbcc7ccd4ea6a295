import java.io.IOException;
import java.io.UncheckedIOException;
import java.nio.file.Files;
import java.nio.file.Path;
import java.util.BitSet;
import java.util.HashMap;
import java.util.Map;
import java.util.regex.Matcher;
import java.util.regex.Pattern;

/**
 * Tests of single sentences of the document: each stands under the words that it looks at, has answers of its
 * own, and fails on its own. The words must be the document's, and each refusal or fault that a promise names
 * must be among the words of a test.
 */
final class Edges {
    static final int MIN = Integer.MIN_VALUE, MAX = Integer.MAX_VALUE;
    private static final Path DOCUMENT = Path.of("../shared/DOC.md");
    private static final Pattern NAMED =
        Pattern.compile("\\b(UNKNOWN|OUTSIDE|STATE|FULL|NONE|LOST|NULL|CAST|INDEX|SIZE)\\b");

    /** What a test looks at. */
    interface Look {
        void at(Checks c);
    }

    /** The text of each part of the document, by its heading. */
    private final Map<String, String> parts = new HashMap<>();
    /** Which characters of a part stand in the words of a test. */
    private final Map<String, BitSet> looked = new HashMap<>();
    private int sentences, answers, broken;

    Edges() {
        if (!Files.isReadable(DOCUMENT)) {
            System.out.println(DOCUMENT + " is not there: the words are not compared with it");
            return;
        }
        try {
            for (String part : Files.readString(DOCUMENT).split("(?m)^## ")) {
                String heading = part.split("[:\n]", 2)[0];
                parts.put(heading, part.substring(heading.length()));
                looked.put(heading, new BitSet());
            }
        } catch (IOException e) {
            throw new UncheckedIOException(e);
        }
    }

    /** A sentence at the document's head. */
    void head(String words, Look look) {
        sentence("What it is", words, look);
    }

    void term(String words, Look look) {
        sentence("Terms", words, look);
    }

    void promise(int number, String words, Look look) {
        sentence("Promise " + number, words, look);
    }

    private void sentence(String heading, String words, Look look) {
        Checks c = new Checks();
        quote(c, heading, words);
        int before = c.seen();
        try {
            look.at(c);
        } catch (RuntimeException e) {
            c.holds("no call throws " + e, false);
        }
        c.holds("something is looked at", c.seen() > before);
        sentences++;
        answers += c.seen();
        if (c.areRight()) return;
        broken++;
        System.out.println("  broken: " + heading + ", \"" + words + "\"");
    }

    private void quote(Checks c, String heading, String words) {
        if (parts.isEmpty()) return;
        int at = parts.getOrDefault(heading, "").indexOf(words);
        c.holds("the words are of the document", at >= 0);
        if (at >= 0) looked.get(heading).set(at, at + words.length());
    }

    /** To be called last, with the promises whose refusals and faults must all have been looked at. */
    void close(int first, int last) {
        for (int number = first; number <= last; number++) lookForMore("Promise " + number);
        System.out.println(sentences + " sentences, " + answers + " answers, " + broken + " broken");
        if (broken != 0 || sentences == 0) System.exit(1);
    }

    private void lookForMore(String heading) {
        Matcher named = NAMED.matcher(parts.getOrDefault(heading, ""));
        while (named.find()) {
            if (looked.get(heading).get(named.start())) continue;
            broken++;
            System.out.println("  no test: " + heading + ", " + named.group());
        }
    }
}
