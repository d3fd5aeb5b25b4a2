import java.io.IOException;
import java.nio.file.Files;
import java.nio.file.Path;
import java.util.ArrayList;
import java.util.Comparator;
import java.util.HashMap;
import java.util.List;
import java.util.Map;
import java.util.regex.Matcher;
import java.util.regex.Pattern;

/**
 * That src/test/SENTENCES.md is whole and true: every sentence of the document stands in it, under the heading under
 * which the document has it, and every test that it names is there and is run.
 */
public final class SentencesTest {
    private static final Path DOCUMENT = Path.of("../shared/DOC.md");
    private static final Path TABLE = Path.of("src/test/SENTENCES.md");
    private static final String TESTS = "src/test/java/";
    /** The document itself says that what stands under this heading is free. */
    private static final String FREE = "Not promised";
    private static final Pattern NAMED = Pattern.compile("`([A-Z]\\w*Test)(?:\\.(\\w+))?`");

    /** By heading, the sentences that the table has there. */
    private static final Map<String, List<String>> sentences = new HashMap<>();

    public static void main(String[] args) throws IOException {
        readTable();
        readDocument();
        for (Map.Entry<String, List<String>> left : sentences.entrySet()) {
            for (String sentence : left.getValue()) {
                Check.due("the document says under '" + left.getKey() + "'", "nothing like: " + sentence, sentence);
            }
        }
        Check.finish("SentencesTest");
    }

    private static void readTable() throws IOException {
        String heading = "";
        for (String line : Files.readAllLines(TABLE)) {
            if (line.startsWith("## ")) {
                heading = line.substring(3);
                sentences.put(heading, new ArrayList<>());
            } else if (line.startsWith("| ") && !line.startsWith("| ---") && !line.startsWith("| sentence")) {
                int middle = line.lastIndexOf(" | ", line.length() - 3);
                sentences.get(heading).add(line.substring(2, middle));
                dueTests(line.substring(middle + 3));
            }
        }
    }

    private static void dueTests(String cell) throws IOException {
        Matcher named = NAMED.matcher(cell);
        int count = 0;
        while (named.find()) {
            count++;
            Path file = Path.of(TESTS + named.group(1) + ".java");
            String source = Files.exists(file) ? Files.readString(file) : "";
            String method = named.group(2) == null ? "main" : named.group(2);
            Check.due(named.group() + " is there", source.contains(" void " + method + "(") ? 1 : 0, 1);
            boolean run = method.equals("main") || source.contains("        " + method + "();");
            Check.due(named.group() + " is run", run ? 1 : 0, 1);
        }
        Check.due("tests are named in '" + cell + "'", count > 0 ? 1 : 0, 1);
    }

    /** What is left of a line of the document without the sentences of the table must be signs alone. */
    private static void readDocument() throws IOException {
        String heading = "";
        boolean code = false;
        for (String line : Files.readAllLines(DOCUMENT)) {
            if (line.startsWith("```")) {
                code = !code;
            } else if (line.startsWith("#")) {
                heading = line.replaceFirst("^#+ ", "");
            } else if (!code && !heading.equals(FREE)) {
                String left = without(line, sentences.getOrDefault(heading, new ArrayList<>()));
                Check.due("'" + heading + "': a sentence without a test", left.replaceAll("[^A-Za-z]", ""), "");
            }
        }
    }

    /** The line without the sentences, the longest first; those that were found in it are done with. */
    private static String without(String line, List<String> there) {
        String left = line.replaceFirst("^(- |[1-7]\\. )", "").replaceFirst("^`[^`]*\\([^`]*\\)[^`]*`: ", "");
        List<String> longestFirst = new ArrayList<>(there);
        longestFirst.sort(Comparator.comparing(String::length).reversed());
        for (String sentence : longestFirst) {
            int at = left.indexOf(sentence);
            if (at >= 0) {
                left = left.substring(0, at) + " " + left.substring(at + sentence.length());
                there.remove(sentence);
            }
        }
        return left;
    }
}
