import java.io.IOException;
import java.nio.file.Files;
import java.nio.file.Path;
import java.util.ArrayList;
import java.util.Arrays;
import java.util.List;
import java.util.Map;
import java.util.TreeMap;

/**
 * Answers under the sentence of the document that they are due by. Each sentence is quoted word for
 * word, so that end() can tell the words of the document that no test stands under.
 */
final class Sentences {
    private static final Path DOCUMENT = Path.of("../shared/DOC.md");
    private static final int TOLD_OF_EACH = 5;

    private final List<String[]> quotes = new ArrayList<>();
    private String where = "";
    private String quote = "";
    private int here = 1;
    private int wrongHere = 0;
    private int checked = 0;
    private int wrong = 0;

    /** The answers that follow stand under this sentence. */
    void of(String section, String sentence) {
        needAnswers();
        where = section;
        quote = sentence;
        here = 0;
        wrongHere = 0;
        quotes.add(new String[] {section, sentence});
    }

    void is(String call, long want, long got) {
        checked++;
        here++;
        if (got != want) {
            wrongHere++;
            fault(where + ", '" + quote + "': " + call + " answered " + got + ", due is " + want);
        }
    }

    void holds(String what, boolean isSo) {
        is(what, 1, isSo ? 1 : 0);
    }

    /** No call may throw, so this is a fault under the sentence too. */
    void threw(Throwable e) {
        System.out.println(where + ", '" + quote + "': threw " + e);
    }

    void end() throws IOException {
        needAnswers();
        wrongHere = 0;
        if (Files.exists(DOCUMENT)) {
            compareWith(sections(Files.readAllLines(DOCUMENT)));
        } else {
            System.out.println("no " + DOCUMENT + " here: the quotes were not compared with it");
        }
        System.out.println(quotes.size() + " sentences, " + checked + " answers looked at, " + wrong + " faults");
        if (wrong != 0 || checked == 0) {
            System.exit(1);
        }
    }

    private void fault(String text) {
        wrong++;
        if (wrongHere <= TOLD_OF_EACH) {
            System.out.println(text);
        }
    }

    private void needAnswers() {
        if (here == 0) {
            fault(where + ", '" + quote + "': no answer stands under it");
        }
    }

    /** Terms and promises, each as one line, without the methods' heads. */
    private static Map<String, String> sections(List<String> lines) {
        Map<String, String> texts = new TreeMap<>();
        String section = "";
        for (String line : lines) {
            if (line.startsWith("## ")) {
                section = line.substring(3).replaceFirst(":.*", "");
            } else if (!line.startsWith("```")) {
                texts.merge(section, line.replaceFirst("^`[^`]*`: ", ""), (text, more) -> text + " " + more);
            }
        }
        texts.replaceAll((name, text) -> text.replaceAll("\\s+", " ").trim());
        return texts;
    }

    private void compareWith(Map<String, String> texts) {
        for (Map.Entry<String, String> section : texts.entrySet()) {
            String left = unquoted(section.getKey(), section.getValue());
            boolean binds = section.getKey().equals("Terms") || section.getKey().startsWith("Promise ");
            if (binds && left.matches(".*[A-Za-z0-9].*")) {
                fault(section.getKey() + ": no test stands under: " + left);
            }
        }
        for (String[] q : quotes) {
            if (!texts.getOrDefault(q[0], "").contains(q[1])) {
                fault(q[0] + " does not say: " + q[1]);
            }
        }
    }

    private String unquoted(String section, String text) {
        char[] left = text.toCharArray();
        for (String[] q : quotes) {
            int at = q[0].equals(section) ? text.indexOf(q[1]) : -1;
            while (at >= 0) {
                Arrays.fill(left, at, at + q[1].length(), ' ');
                at = text.indexOf(q[1], at + 1);
            }
        }
        return new String(left).replaceAll("\\s+", " ").trim();
    }
}
