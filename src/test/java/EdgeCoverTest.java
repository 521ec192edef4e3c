import java.io.IOException;
import java.nio.file.DirectoryStream;
import java.nio.file.Files;
import java.nio.file.Path;
import java.util.ArrayList;
import java.util.HashMap;
import java.util.List;
import java.util.Map;
import java.util.regex.Matcher;
import java.util.regex.Pattern;

/**
 * Each sentence of the document's Terms and Promises is one that an Edge test quotes, and each number and each
 * ERROR in it stands in a quoted part. What an Edge test quotes it asks at least one answer of.
 */
public final class EdgeCoverTest {
    private static final String TEXT = "\"(?:[^\"\\\\]|\\\\.)*\"";

    public static void main(String[] args) throws IOException {
        Map<String, List<String>> quotes = new HashMap<>();
        try (DirectoryStream<Path> files = Files.newDirectoryStream(Path.of("src/test/java"), "Edge*Test.java")) {
            for (Path file : files) {
                if (!file.endsWith("EdgeCoverTest.java")) {
                    addQuotes(quotes, Files.readString(file));
                }
            }
        }
        Map<String, String> sections = Edge.sections();
        Due.is("terms, promises", countOf(sections), 51);
        for (Map.Entry<String, String> section : sections.entrySet()) {
            if (section.getKey().matches("ERRORS|Term \\d|Promise \\d+")) {
                cover(section.getKey(), section.getValue(), quotes.getOrDefault(section.getKey(), List.of()));
            }
        }
        Due.end("EdgeCoverTest");
    }

    private static int countOf(Map<String, String> sections) {
        int count = 0;
        for (String name : sections.keySet()) {
            count += name.matches("ERRORS|Term \\d|Promise \\d+") ? 1 : 0;
        }
        return count;
    }

    /** The texts by the names of those that a file gives names, and what it gives to Edge.of(). */
    private static void addQuotes(Map<String, List<String>> quotes, String source) {
        String text = source.replaceAll("\"\\s*\\+\\s*\"", "");
        Map<String, String> names = new HashMap<>();
        Matcher named = Pattern.compile("String (\\w+)\\s*= (" + TEXT + ");").matcher(text);
        List<int[]> places = new ArrayList<>();
        List<String[]> given = new ArrayList<>();
        while (named.find()) {
            places.add(new int[] {named.start()});
            given.add(new String[] {named.group(1), bare(named.group(2))});
        }
        Matcher used = Pattern.compile("Edge\\.of\\((" + TEXT + "), (" + TEXT + "|\\w+),").matcher(text);
        while (used.find()) {
            String quote = used.group(2);
            if (quote.startsWith("\"")) {
                add(quotes, bare(used.group(1)), bare(quote));
                continue;
            }
            // the latest ahead with that name; constants stand ahead of all
            for (int i = 0; i < places.size(); i++) {
                if (places.get(i)[0] < used.start() && given.get(i)[0].equals(quote)) {
                    names.put(quote, given.get(i)[1]);
                }
            }
            if (names.containsKey(quote)) {
                add(quotes, bare(used.group(1)), names.get(quote));
            }
        }
        addHelped(quotes, text, places, given);
    }

    /** Helpers that hand a sentence on to Edge.of(): what they are called with. */
    private static void addHelped(Map<String, List<String>> quotes, String text, List<int[]> places, List<String[]> given) {
        Matcher helped = Pattern.compile("Edge\\.of\\((" + TEXT + "), sentence,").matcher(text);
        String section = helped.find() ? bare(helped.group(1)) : "";
        Matcher calls = Pattern.compile("\\b(?:is|fault|going|echoing)\\((" + TEXT + "|\\w+),").matcher(text);
        while (calls.find() && !section.isEmpty()) {
            String quote = calls.group(1);
            String found = quote.startsWith("\"") ? bare(quote) : "";
            for (int i = 0; i < places.size(); i++) {
                if (places.get(i)[0] < calls.start() && given.get(i)[0].equals(quote)) {
                    found = given.get(i)[1];
                }
            }
            add(quotes, section, found);
        }
    }

    private static void add(Map<String, List<String>> quotes, String section, String quote) {
        if (!quote.isEmpty()) {
            quotes.computeIfAbsent(section, key -> new ArrayList<>()).add(quote);
        }
    }

    private static String bare(String text) {
        return text.substring(1, text.length() - 1).replace("\\\"", "\"");
    }

    private static void cover(String name, String text, List<String> quotes) {
        boolean[] covered = new boolean[text.length()];
        for (String quote : quotes) {
            for (int at = text.indexOf(quote); at >= 0; at = text.indexOf(quote, at + 1)) {
                java.util.Arrays.fill(covered, at, at + quote.length(), true);
            }
        }
        int start = 0;
        Matcher ends = Pattern.compile("(?<![.])[.;](?= |$)").matcher(text);
        while (ends.find()) {
            boolean is = false;
            for (int i = start; i < ends.end(); i++) {
                is |= covered[i];
            }
            Due.is(name + ": no test quotes '" + text.substring(start, ends.end()).trim() + "'", is ? 1 : 0, 1);
            start = ends.end();
        }
        Matcher marks = Pattern.compile("\\d+|BEYOND|NONE|STATE|FULL|PARTED|\\bnone\\b|at most|at first").matcher(text);
        while (marks.find()) {
            String around = text.substring(Math.max(0, marks.start() - 30), Math.min(text.length(), marks.end() + 30));
            Due.is(name + ": no test quotes '" + marks.group() + "' in '.." + around + "..'",
                covered[marks.start()] ? 1 : 0, 1);
        }
    }
}
