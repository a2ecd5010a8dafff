import java.io.IOException;
import java.nio.file.Files;
import java.nio.file.Path;
import java.util.BitSet;
import java.util.LinkedHashMap;
import java.util.Map;
import java.util.regex.Matcher;
import java.util.regex.Pattern;

/**
 * Holds answers to the words of the document that ask for them, and looks at the end whether every word of its Terms
 * and Promises stands in some words that were held to.
 */
final class Ledger {
    private static final Path DOC = Path.of("../shared/DOC.md");
    private static final Pattern WORD = Pattern.compile("\\w+");

    private final Map<String, String> sections = new LinkedHashMap<>();
    private final Map<String, BitSet> held = new LinkedHashMap<>();
    private String section = "";
    private String words = "";
    private int checksOfWords = 1;
    private int sentences = 0;
    private int checks = 0;
    private int wrong = 0;

    Ledger() throws IOException {
        String doc = Files.readString(DOC);
        String terms = doc.substring(doc.indexOf("## Terms"), doc.indexOf("## Promise 1:"));
        String[] parts = terms.split("(?m)^(?=\\d\\. )");
        for (int k = 1; k < parts.length; k++) {
            put("Terms " + k, parts[k].substring(3));
        }
        String promises = doc.substring(doc.indexOf("## Promise 1:"), doc.indexOf("## Not promised"));
        for (String part : promises.split("(?m)^(?=## Promise )")) {
            int end = part.indexOf(':');
            put(part.substring(3, end), part.substring(part.indexOf("`: ") + 3));
        }
    }

    private void put(String name, String text) {
        sections.put(name, folded(text.replace("```text", "").replace("```", "")));
        held.put(name, new BitSet());
    }

    private static String folded(String text) {
        return text.replaceAll("\\s+", " ").trim();
    }

    /** What comes is of this part of the document: "Terms 3" or "Promise 12". */
    void section(String name) {
        section = name;
        if (!sections.containsKey(name)) {
            fail("the document has no " + name);
        }
    }

    /** What comes holds the class to these words. */
    void says(String quote) {
        if (checksOfWords == 0) {
            fail("nothing was held to: " + words);
        }
        words = quote;
        checksOfWords = 0;
        sentences++;
        String text = sections.getOrDefault(section, "");
        int at = text.indexOf(folded(quote));
        if (at < 0) {
            fail("these words are not in the document");
        } else {
            held.get(section).set(at, at + folded(quote).length());
        }
    }

    void due(String what, long got, long want) {
        checks++;
        checksOfWords++;
        if (got != want) {
            fail(what + " answered " + got + ", due is " + want);
        }
    }

    void due(String what, boolean got, boolean want) {
        due(what, got ? 1 : 0, want ? 1 : 0);
    }

    /** Whether two rows of answers are alike; names tell which answer each is. */
    void alike(String what, int[] got, int[] want) {
        due(what + ": how many answers", got.length, want.length);
        for (int k = 0; k < Math.min(got.length, want.length); k++) {
            due(what + ": answer " + k + " of Look", got[k], want[k]);
        }
    }

    private void fail(String what) {
        wrong++;
        System.out.println(section + ", \"" + words + "\": " + what);
    }

    /** Whether all was as due, and no word of the Terms and Promises was left out. */
    boolean end() {
        for (Map.Entry<String, String> part : sections.entrySet()) {
            String text = part.getValue();
            Matcher m = WORD.matcher(text);
            while (m.find()) {
                boolean isHeld = held.get(part.getKey()).nextClearBit(m.start()) >= m.end();
                if (!isHeld && !m.group().equals("and")) {
                    wrong++;
                    System.out.println(part.getKey() + ": nothing holds the class to .. "
                            + text.substring(Math.max(0, m.start() - 30), Math.min(text.length(), m.end() + 30)) + " ..");
                }
            }
        }
        System.out.println(wrong == 0 ? checks + " answers as due, to " + sentences + " quotes of the document"
                : wrong + " are not as due");
        return wrong == 0;
    }
}
