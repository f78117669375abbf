import java.io.IOException;
import java.nio.file.Files;
import java.nio.file.Path;
import java.util.ArrayList;
import java.util.LinkedHashMap;
import java.util.List;
import java.util.Map;
import java.util.regex.Matcher;
import java.util.regex.Pattern;

/**
 * Every sentence of the document's Terms and promises has an edge of its own in the Edges tests: one that
 * bears that sentence, or a part of it, as its name; and no name is of words that the document has not.
 */
public final class DocumentTest {
    private static final Path DOCUMENT = Path.of("../shared/DOC.md");
    private static int wrong = 0;

    private DocumentTest() { }

    public static void main(String[] args) throws IOException {
        Map<String, String> sections = sections(Files.readString(DOCUMENT));
        due(sections.size() == 6 + 45, "six parts of Terms and 45 promises, not " + sections.size());
        runEdges();
        for (String[] quote : Script.quotes()) {
            String section = sections.getOrDefault(quote[0], "");
            due(section.contains(quote[1]), quote[0] + " has no words: " + quote[1]);
        }
        int sentences = 0;
        for (Map.Entry<String, String> section : sections.entrySet()) {
            for (String sentence : sentences(section.getValue())) {
                sentences++;
                due(hasEdge(section.getKey(), sentence), section.getKey() + " has no edge for: " + sentence);
            }
        }
        System.out.println(sentences + " sentences, " + Script.quotes().size() + " edges, " + wrong + " not as due");
        if (wrong != 0) {
            System.exit(1);
        }
    }

    private static void runEdges() {
        String[] none = new String[0];
        EdgesOfErrorsTest.main(none);
        EdgesOfPlacesTest.main(none);
        EdgesOfWordsTest.main(none);
        EdgesOfStancesTest.main(none);
        EdgesOfTextsTest.main(none);
        EdgesOfYearsTest.main(none);
        EdgesOfWhatCanBeTest.main(none);
        EdgesOfVoicesTest.main(none);
        EdgesOfImagesTest.main(none);
    }

    private static void due(boolean holds, String what) {
        if (!holds) {
            wrong++;
            System.out.println(what);
        }
    }

    private static boolean hasEdge(String section, String sentence) {
        for (String[] quote : Script.quotes()) {
            boolean toItsEnd = quote[1].endsWith(".");
            String words = toItsEnd ? quote[1].substring(0, quote[1].length() - 1) : quote[1];
            boolean isPart = toItsEnd ? sentence.endsWith(words) : sentence.contains(words);
            if (quote[0].equals(section) && (isPart || words.contains(sentence))) {
                return true;
            }
        }
        return false;
    }

    /** "Terms 0" (the lines ahead of 1) to "Terms 5", "Promise 1" to "Promise 45", blanks made one. */
    private static Map<String, String> sections(String document) {
        Map<String, String> sections = new LinkedHashMap<>();
        String terms = document.substring(document.indexOf("## Terms") + 8, document.indexOf("Ahead of the calls"));
        String[] parts = terms.split("\n(?=\\d\\. )");
        for (int i = 0; i < parts.length; i++) {
            sections.put("Terms " + i, oneBlank(parts[i].replace("```text", "").replace("```", "").replaceFirst("^\\d\\. ", "")));
        }
        Matcher promises = Pattern.compile("## Promise (\\d+): [^\n]*\n\n`[^`]*`: ([^\n]*)").matcher(document);
        while (promises.find()) {
            sections.put("Promise " + promises.group(1), oneBlank(promises.group(2)));
        }
        return sections;
    }

    private static String oneBlank(String text) {
        return text.replaceAll("\\s+", " ").strip();
    }

    private static List<String> sentences(String section) {
        List<String> sentences = new ArrayList<>();
        // A full stop ends one, but for those of 0, 1, .. and binds(..).
        for (String sentence : section.split("(?<=[^.\\s(])\\.(?=\\s|$)")) {
            if (!sentence.isBlank()) {
                sentences.add(sentence.strip());
            }
        }
        return sentences;
    }
}
