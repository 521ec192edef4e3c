import java.io.IOException;
import java.nio.file.Files;
import java.nio.file.Path;
import java.util.LinkedHashMap;
import java.util.Map;
import java.util.regex.Matcher;
import java.util.regex.Pattern;

/** Tests of the document's sentences, each under the words that it tests. */
final class Edge {
    private static final Map<String, String> SECTIONS = sections();

    private Edge() {
    }

    /** A new object, for what a sentence of a section of the document says of one case. */
    static ClickStreet of(String section, String sentence, String what) {
        String start = sentence.length() > 60 ? sentence.substring(0, 57) + ".." : sentence;
        Due.begin(section + ", '" + start + "', " + what);
        String text = SECTIONS.getOrDefault(section, "");
        Due.stands("the sentence stands in the document", text.contains(sentence));
        return new ClickStreet();
    }

    /** The parts of the document by name, their blanks and line ends one blank each. */
    static Map<String, String> sections() {
        Map<String, String> sections = new LinkedHashMap<>();
        String text;
        try {
            text = Files.readString(Path.of(System.getProperty("document", "../shared/DOC.md")));
        } catch (IOException missing) {
            return sections;
        }
        Matcher heads = Pattern.compile("(?ms)^## ([^\n]*)\n(.*?)(?=^## |\\z)").matcher(text);
        while (heads.find()) {
            String head = heads.group(1).replaceAll(":.*", "");
            String body = heads.group(2).replaceAll("(?m)^```.*$|^Ahead of the calls.*$", "");
            if (head.equals("Terms")) {
                putTerms(sections, body);
            } else {
                sections.put(head, body.replaceAll("`[^`]*`:", "").replaceAll("\\s+", " ").trim());
            }
        }
        return sections;
    }

    private static void putTerms(Map<String, String> sections, String body) {
        String[] terms = body.split("(?m)^(?=\\d\\. )");
        for (int i = 0; i < terms.length; i++) {
            sections.put(i == 0 ? "ERRORS" : "Term " + i, terms[i].replaceFirst("^\\d\\. ", "").replaceAll("\\s+", " ").trim());
        }
    }
}
