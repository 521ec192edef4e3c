import java.io.IOException;
import java.lang.reflect.Constructor;
import java.lang.reflect.Field;
import java.lang.reflect.Method;
import java.lang.reflect.Modifier;
import java.nio.file.Files;
import java.nio.file.Path;
import java.util.ArrayList;
import java.util.List;
import java.util.TreeSet;
import java.util.regex.Matcher;
import java.util.regex.Pattern;

/** The rules of LANGUAGE.md, as far as the class and its source show them. */
public final class RulesTest {
    private static final String[] FACE = {
        "thing(int,int)", "thingIs(int,int)", "moves(int,int,int)", "away(int)", "kind(int,int,int)", "at(int)",
        "lays(int,int)", "air(int,int)", "walker(int,int,int)", "walkerIs(int,int)", "as(int,int)",
        "habit(int,int,int,int)", "face(int,int)", "goes(int,boolean)", "feed(long,int)", "text(int)",
        "echo(int,int,int,int)", "click(int)", "head(int,int,int)", "heads(int,int)", "alike(int,int,int,int,int)",
        "least(int,int,int,int)", "farthest(int,int,int)", "spots(int,int,int,int)", "tenths(int)",
        "way(int,int,int)", "safe(int)", "lesson(int,int,int)", "learn(int,int,int)", "posts(int,int,int,int)",
        "voice(int,int,int)", "trace(int)", "sheet(int,int,int)", "put(int,int,int)", "move(int,int,int,int,int)",
        "image()", "restore()", "tell(int)", "check(int)", "count(int)", "told(int)"
    };
    private static final String[] FORBIDDEN = {
        "\\bthrow\\b", "\\btry\\b", "\\bcatch\\b", "\\bsynchronized\\b", "\\bassert\\b", "->", "::", "\\bimport\\b",
        "\\bpackage\\b", "\\bstatic\\s*\\{", "Exact\\b", "\\bfinally\\b", "\\bnative\\b", "\\bInteger\\.valueOf",
        "\\bvar\\b", "\\bhashCode\\b", "\\btoString\\b", "\\bRandom\\b", "\\bSystem\\.(?!arraycopy)", "\\bThread\\b",
        "\\bprotected\\b", "\\bimplements\\b", "\\bdouble\\b", "\\bfloat\\b"
    };

    public static void main(String[] args) throws IOException {
        face();
        classesInside();
        source();
        Due.end("RulesTest");
    }

    private static void face() {
        TreeSet<String> due = new TreeSet<>(List.of(FACE));
        TreeSet<String> is = new TreeSet<>();
        TreeSet<String> names = new TreeSet<>();
        for (Method method : ClickStreet.class.getDeclaredMethods()) {
            if (!Modifier.isPrivate(method.getModifiers())) {
                StringBuilder text = new StringBuilder(method.getName()).append('(');
                for (Class<?> type : method.getParameterTypes()) {
                    text.append(text.charAt(text.length() - 1) == '(' ? "" : ",").append(type.getName());
                }
                is.add(text.append(')').toString());
                names.add(method.getName());
                Due.is("answers an int: " + method, method.getReturnType() == int.class ? 1 : 0, 1);
                Due.is("public, not static: " + method, method.getModifiers(), Modifier.PUBLIC);
            }
        }
        Due.is("the face is " + is + ", due is " + due, is.equals(due) ? 1 : 0, 1);
        Due.is("final, public", ClickStreet.class.getModifiers(), Modifier.PUBLIC | Modifier.FINAL);
        Constructor<?>[] made = ClickStreet.class.getDeclaredConstructors();
        Due.is("one constructor", made.length, 1);
        Due.is("public", made[0].getModifiers(), Modifier.PUBLIC);
        for (Field field : ClickStreet.class.getDeclaredFields()) {
            Due.is("private: " + field, Modifier.isPrivate(field.getModifiers()) ? 1 : 0, 1);
        }
        List<Class<?>> all = new ArrayList<>(List.of(ClickStreet.class.getDeclaredClasses()));
        all.add(ClickStreet.class);
        for (Class<?> one : all) {
            for (Method method : one.getDeclaredMethods()) {
                boolean isOwn = one != ClickStreet.class || Modifier.isPrivate(method.getModifiers());
                Due.is("bears the name of a public one: " + method,
                    isOwn && names.contains(method.getName()) ? 1 : 0, 0);
                Due.is("parameters: " + method, method.getParameterCount() <= 7 ? 1 : 0, 1);
            }
        }
    }

    private static void classesInside() {
        Class<?>[] inside = ClickStreet.class.getDeclaredClasses();
        Due.is("some twelve classes", inside.length + 1 <= 12 ? 1 : 0, 1);
        for (Class<?> one : inside) {
            int modifiers = one.getModifiers();
            Due.is("static: " + one, Modifier.isStatic(modifiers) ? 1 : 0, 1);
            Due.is("private: " + one, Modifier.isPrivate(modifiers) ? 1 : 0, 1);
            int fields = 0;
            for (Field field : one.getDeclaredFields()) {
                boolean isStatic = Modifier.isStatic(field.getModifiers());
                Due.is("static and not final: " + field, isStatic && !Modifier.isFinal(field.getModifiers()) ? 1 : 0, 0);
                fields += isStatic ? 0 : 1;
            }
            Due.is("some twenty fields: " + one, fields <= 20 ? 1 : 0, 1);
        }
    }

    private static void source() throws IOException {
        String text = Files.readString(Path.of("src/main/java/ClickStreet.java"));
        for (int i = 0; i < text.length(); i++) {
            if (text.charAt(i) > 127) {
                Due.is("a sign above 127 at " + i, 1, 0);
            }
        }
        String bare = text.replaceAll("(?s)/\\*.*?\\*/", " ").replaceAll("//[^\n]*", " ");
        for (String forbidden : FORBIDDEN) {
            Matcher matcher = Pattern.compile(forbidden).matcher(bare);
            Due.is("in the source: " + forbidden, matcher.find() ? 1 : 0, 0);
        }
        Matcher joined = Pattern.compile("\"\\s*\\+|\\+\\s*\"").matcher(bare);
        Due.is("texts joined by +", joined.find() ? 1 : 0, 0);
        String[] lines = text.split("\n");
        int start = -1;
        for (int i = 0; i < lines.length; i++) {
            Due.is("a line too long: " + (i + 1), lines[i].length() <= 120 ? 1 : 0, 1);
            boolean isMethod = lines[i].matches("( {4}| {8})[a-zA-Z][^=;]*\\) \\{");
            if (isMethod) {
                start = i;
            }
            if (start >= 0 && lines[i].matches("( {4}| {8})\\}")) {
                Due.is("a method too long, line " + (start + 1), i - start <= 60 ? 1 : 0, 1);
                start = -1;
            }
            boolean makes = lines[i].matches(".*\\bnew\\b.*") && !lines[i].trim().startsWith("*");
            boolean isField = lines[i].contains(" = new ") && lines[i].trim().startsWith("private ");
            boolean fillsRow = lines[i].matches("\\s+(sheets|texts|walkers|numbers)(\\[i\\])? = new .*");
            Due.is("makes an object outside a constructor, line " + (i + 1), makes && !isField && !fillsRow
                && !lines[i].contains("/**") ? 1 : 0, 0);
        }
    }
}
