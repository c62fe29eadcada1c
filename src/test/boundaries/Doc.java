import java.io.IOException;
import java.nio.file.Files;
import java.nio.file.Path;
import java.util.Arrays;
import java.util.function.Supplier;
import java.util.function.ToIntFunction;

/**
 * The document, as the sentences that tests are for: each test names the words it tests, and words
 * that no test names are told at the end.
 */
final class Doc {
    static final int UNKNOWN = -1, OUTSIDE = -2, STATE = -3, FULL = -4, NONE = -9;
    static final int LEAST = Integer.MIN_VALUE, MOST = Integer.MAX_VALUE;

    /** The section of the Terms; the others have the number of their promise. */
    static final int TERMS = 0;
    private static final int PROMISES = 22;

    private final String[] words = new String[PROMISES + 1];
    private final boolean[][] named = new boolean[PROMISES + 1][];
    private int section = TERMS;
    private String sentence = "";
    private int asked = 1;
    private int askedInAll = 0;
    private int sentences = 0;
    private int wrong = 0;

    Doc(Path file) throws IOException {
        Arrays.fill(words, "");
        for (String part : Files.readString(file).split("(?m)^## ")) {
            int end = part.indexOf('\n');
            keep(part.substring(0, Math.max(end, 0)), part.substring(end + 1));
        }
        for (int k = 0; k <= PROMISES; k++) {
            words[k] = words[k].replaceAll("\\s+", " ").trim();
            named[k] = new boolean[words[k].length()];
        }
    }

    private void keep(String heading, String text) {
        if (heading.equals("What it is")) {
            words[TERMS] += text.substring(Math.max(0, text.indexOf("An object is used")));
        }
        if (heading.equals("Terms")) {
            words[TERMS] += " " + text.replaceAll("```(text)?", " ").replaceAll("==== [0-9]", " ")
                    .replaceAll("(?m)^Ahead of the calls .*$", " ");
        }
        if (heading.matches("Promise [0-9]+: .*")) {
            int number = Integer.parseInt(heading.replaceAll("Promise ([0-9]+): .*", "$1"));
            if (number > 0 && number <= PROMISES) {
                words[number] = text.replaceFirst("(?s)^\\s*`[^`]*`: ", "");
            }
        }
    }

    /** The words that the answers behind this call are due by. */
    void sentence(int inSection, String quote) {
        endSentence();
        section = inSection;
        sentence = quote;
        asked = 0;
        sentences++;
        int at = words[inSection].indexOf(quote);
        if (at < 0) {
            fail("the document does not say so");
        }
        for (int k = Math.max(at, 0); k < at + quote.length(); k++) {
            named[inSection][k] = true;
        }
    }

    private void endSentence() {
        if (asked == 0) {
            fail("nothing was asked");
        }
    }

    private void fail(String what) {
        wrong++;
        System.out.println((section == TERMS ? "terms" : "promise " + section) + ", \"" + sentence
                + "\": " + what);
    }

    void due(String what, int got, int want) {
        asked++;
        askedInAll++;
        if (got != want) {
            fail(what + " answered " + got + ", due is " + want);
        }
    }

    void refused(String what, Supplier<CargoTanks> made, ToIntFunction<CargoTanks> call, int want) {
        due(what, call.applyAsInt(made.get()), want);
        due(what + " changes", Snapshot.changes(made, call), 0);
    }

    /** Tells words that no test names, and how many answers were wrong. */
    int end() {
        endSentence();
        for (section = 0; section <= PROMISES; section++) {
            sentence = words[section].isEmpty() ? "the section is not there" : rest(section);
            if (sentence.matches(".*\\w.*")) {
                fail("no test names these words");
            }
        }
        System.out.println(sentences + " sentences, " + askedInAll + " answers, " + wrong + " wrong");
        return wrong;
    }

    private String rest(int of) {
        StringBuilder left = new StringBuilder();
        for (int k = 0; k < words[of].length(); k++) {
            left.append(named[of][k] ? ' ' : words[of].charAt(k));
        }
        return left.toString().replaceAll("\\s+", " ").trim();
    }
}
