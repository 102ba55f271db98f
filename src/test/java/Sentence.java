import java.io.IOException;
import java.nio.charset.StandardCharsets;
import java.nio.file.Files;
import java.nio.file.Path;
import java.util.ArrayList;
import java.util.List;

/** Runs tests of the document's sentences, and compares the words that they quote with the document. */
final class Sentence {
    private static final List<String[]> QUOTED = new ArrayList<>();

    interface Test {
        void run();
    }

    private Sentence() {
    }

    /** Words are a sentence, or a part of one, as it stands below the heading that begins with the section. */
    static void holds(String section, String words, Test test) {
        QUOTED.add(new String[] {section, words});
        Check.at("[" + section + "] " + words + " : ");
        int before = Check.checks();
        try {
            test.run();
        } catch (RuntimeException e) {
            Check.fail("the test ended with " + e);
        }
        if (Check.checks() == before) {
            Check.fail("nothing was checked");
        }
        Check.at("");
    }

    /** Words that name no boundary case. */
    static void plain(String section, String words) {
        QUOTED.add(new String[] {section, words});
    }

    /** Each quoted sentence stands in the document, and each sentence of the document is quoted. */
    static void compareWith(Path document, String firstHeading, String lastHeading) throws IOException {
        if (!Files.isRegularFile(document)) {
            System.out.println("no document at " + document + ": the sentences are not compared with it");
            return;
        }
        List<String[]> told = sentences(document, firstHeading, lastHeading);
        for (String[] quoted : QUOTED) {
            Check.same("quoted, but not in the document: " + String.join(" / ", quoted), isTold(told, quoted) ? 1 : 0, 1);
        }
        for (String[] sentence : told) {
            Check.same("without a test: " + String.join(" / ", sentence), isQuoted(sentence) ? 1 : 0, 1);
        }
    }

    private static List<String[]> sentences(Path document, String first, String last) throws IOException {
        List<String[]> all = new ArrayList<>();
        String heading = "";
        boolean inside = false;
        boolean code = false;
        for (String line : Files.readAllLines(document, StandardCharsets.UTF_8)) {
            if (line.startsWith("#")) {
                heading = line.replaceFirst("#+ ", "");
                inside = (inside || heading.equals(first)) && !heading.equals(last);
            } else if (line.startsWith("```")) {
                code = !code;
            } else if (inside && !code && !line.isBlank()) {
                for (String sentence : line.replaceFirst("^[1-4]\\. ", "").split("(?<=\\.)\\s+")) {
                    all.add(new String[] {heading, sentence});
                }
            }
        }
        return all;
    }

    private static boolean stands(String[] quoted, String[] sentence) {
        boolean here = sentence[0].equals(quoted[0]) || sentence[0].startsWith(quoted[0] + ":");
        return here && sentence[1].contains(quoted[1]);
    }

    private static boolean isTold(List<String[]> told, String[] quoted) {
        for (String[] sentence : told) {
            if (stands(quoted, sentence)) {
                return true;
            }
        }
        return false;
    }

    private static boolean isQuoted(String[] sentence) {
        for (String[] quoted : QUOTED) {
            if (stands(quoted, sentence)) {
                return true;
            }
        }
        return false;
    }
}
