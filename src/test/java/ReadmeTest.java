import java.io.IOException;
import java.lang.reflect.InvocationTargetException;
import java.lang.reflect.Method;
import java.nio.file.DirectoryStream;
import java.nio.file.Files;
import java.nio.file.Path;
import java.util.HashMap;
import java.util.Map;
import java.util.TreeSet;
import java.util.regex.Matcher;
import java.util.regex.Pattern;

/** README.md: its examples answer what it says, it names each call of the document and each test. */
public final class ReadmeTest {
    private static final Pattern CALL = Pattern.compile("street\\.(\\w+)\\(([^)]*)\\);\\s+// (-?\\d+)(:.*)?");
    private static final Map<String, Method> CALLS = new HashMap<>();

    public static void main(String[] args) throws IOException, IllegalAccessException, InvocationTargetException {
        for (Method method : ClickStreet.class.getMethods()) {
            if (method.getDeclaringClass() == ClickStreet.class) {
                CALLS.put(method.getName(), method);
            }
        }
        String readme = Files.readString(Path.of("README.md"));
        examples(readme);
        calls(readme);
        errors(readme);
        tests(readme);
        Due.end("ReadmeTest");
    }

    /** Each line of an example makes a new object, or is a call with what it answers. */
    private static void examples(String readme) throws IllegalAccessException, InvocationTargetException {
        Matcher examples = Pattern.compile("(?s)```java\n(.*?)```").matcher(readme);
        int count = 0;
        while (examples.find()) {
            count++;
            ClickStreet street = new ClickStreet();
            String[] lines = examples.group(1).split("\n");
            Due.stands("an example begins with a new object", lines[0].equals("ClickStreet street = new ClickStreet();"));
            for (int i = 1; i < lines.length; i++) {
                Matcher call = CALL.matcher(lines[i]);
                boolean isCall = call.matches() && CALLS.containsKey(call.group(1));
                Due.stands("'" + lines[i] + "' is a call with its answer", isCall);
                if (isCall) {
                    Due.is(lines[i], answer(street, CALLS.get(call.group(1)), call.group(2)), Long.parseLong(call.group(3)));
                }
            }
        }
        Due.is("some examples", count >= 4 ? 1 : 0, 1);
    }

    private static int answer(ClickStreet street, Method call, String said)
            throws IllegalAccessException, InvocationTargetException {
        String[] parts = said.isEmpty() ? new String[0] : said.split(", ");
        Class<?>[] types = call.getParameterTypes();
        Due.is(call + " takes so many", parts.length, types.length);
        Object[] given = new Object[types.length];
        for (int i = 0; i < types.length && i < parts.length; i++) {
            if (types[i] == boolean.class) {
                given[i] = Boolean.valueOf(parts[i]);
            } else if (types[i] == long.class) {
                given[i] = Long.decode(parts[i].replace("L", ""));
            } else {
                given[i] = Integer.decode(parts[i]);
            }
        }
        return (Integer) call.invoke(street, given);
    }

    /** A row for each call, with the names that the document's face gives to what it takes. */
    private static void calls(String readme) throws IOException {
        String document = Files.readString(Path.of(System.getProperty("document", "../shared/DOC.md")));
        Matcher face = Pattern.compile("public int (\\w+)\\(([^)]*)\\);").matcher(document);
        int count = 0;
        while (face.find()) {
            count++;
            String row = "| `" + face.group(1) + "(" + face.group(2).replaceAll("(int|long|boolean) ", "") + ")` |";
            Due.is("README.md has a row " + row, readme.contains(row) ? 1 : 0, 1);
        }
        Due.is("calls of the face", count, CALLS.size());
        Due.is("rows of calls", readme.split("\n\\| `", -1).length - 1, CALLS.size());
    }

    private static void errors(String readme) {
        String[] names = {"BEYOND", "NONE", "STATE", "FULL", "KIND", "PARTED"};
        for (int k = 1; k <= names.length; k++) {
            String row = "\\| " + (-1000000 - k) + " \\| " + names[k - 1] + ":[^|]*\\| " + k + " \\|";
            Due.is("README.md has a row " + row, Pattern.compile(row).matcher(readme).find() ? 1 : 0, 1);
        }
    }

    /** How the tests are run, and just those tests that there are. */
    private static void tests(String readme) throws IOException {
        Due.is("README.md tells how to run the tests", readme.contains("bash .ci/run") ? 1 : 0, 1);
        TreeSet<String> there = new TreeSet<>();
        try (DirectoryStream<Path> files = Files.newDirectoryStream(Path.of("src/test/java"), "*Test.java")) {
            for (Path file : files) {
                there.add(file.getFileName().toString().replace(".java", ""));
            }
        }
        TreeSet<String> named = new TreeSet<>();
        Matcher names = Pattern.compile("\\b\\w+Test\\b").matcher(readme);
        while (names.find()) {
            named.add(names.group());
        }
        Due.is("the tests are " + there + ", README.md names " + named, named.equals(there) ? 1 : 0, 1);
    }
}
