import java.io.IOException;
import java.lang.reflect.Field;
import java.lang.reflect.Method;
import java.lang.reflect.Modifier;
import java.nio.charset.StandardCharsets;
import java.nio.file.Files;
import java.nio.file.Path;
import java.util.Arrays;
import java.util.Set;
import java.util.TreeSet;
import java.util.regex.Matcher;
import java.util.regex.Pattern;

/** The document's face, and of the rules of LANGUAGE.md those that can be told from the source's text and from the class. */
public final class LanguageTest {
    private static final Due due = new Due("LanguageTest");

    private static final String FACE = "lamp(int,int,int,int) lampOf(int,int) change(int,int,int) remake(int,int)"
        + " dance(int) danceOf(int) steps(int,int) anew() state(int) feed(long,int) rules() beat() in(int) shows(int)"
        + " on(int) lost(int) crosses(int,int) sized(int) aimed(int) stepFor(int) who() best(int) ith(int,int)"
        + " ways(int) game(int) play(int) report(int,int,int,int) forget() span(int) liar() seed(int) lot()"
        + " often(int,int) prove(int) row(int,int) alterRow(int,int,int) judge() sheet(int,int,int)"
        + " write(int,int,int) item(int,int,int) goAll(int,int,int) wouldBe(int,int,int) shelf(int,int,int)"
        + " taken(int,int) act(int,int,int) trace(int) many(int) keep() again()";

    public static void main(String[] args) throws IOException {
        face();
        members();
        String source = Files.readString(Path.of("src/main/java/LampThatFollows.java"), StandardCharsets.US_ASCII);
        text(source.replaceAll("(?s)/\\*.*?\\*/", "").replaceAll("//[^\n]*", "").replaceAll("\"[^\"\n]*\"", "\"\""));
        methods(source);
        due.end();
    }

    private static void face() {
        Set<String> has = new TreeSet<>();
        for (Method m : LampThatFollows.class.getDeclaredMethods()) {
            if (Modifier.isPrivate(m.getModifiers()) || m.isSynthetic()) continue;
            due.is(m.getName() + " is public", m.getModifiers(), Modifier.PUBLIC);
            due.is(m.getName() + " answers an int", m.getReturnType() == int.class ? 1 : 0, 1);
            String types = Arrays.toString(Arrays.stream(m.getParameterTypes()).map(Class::getName).toArray());
            has.add(m.getName() + "(" + types.replaceAll("[\\[\\] ]", "") + ")");
        }
        due.is("face " + has, has.equals(new TreeSet<>(Arrays.asList(FACE.split(" ")))) ? 1 : 0, 1);
        due.is("constructors", LampThatFollows.class.getConstructors().length, 1);
        due.is("class", LampThatFollows.class.getModifiers(), Modifier.PUBLIC | Modifier.FINAL);
        due.is("BAD", LampThatFollows.BAD, -1);
        due.is("FULL", LampThatFollows.FULL, -2);
        due.is("NONE", LampThatFollows.NONE, -3);
        due.is("STATE", LampThatFollows.STATE, -4);
    }

    private static void members() {
        int constants = Modifier.PUBLIC | Modifier.STATIC | Modifier.FINAL;
        for (Field f : LampThatFollows.class.getDeclaredFields()) {
            boolean right = Modifier.isPrivate(f.getModifiers()) || f.getModifiers() == constants;
            due.is("field " + f.getName(), right ? 1 : 0, 1);
        }
        Set<String> names = new TreeSet<>();
        for (Method m : LampThatFollows.class.getMethods()) names.add(m.getName());
        Class<?>[] inside = LampThatFollows.class.getDeclaredClasses();
        due.is("classes, at most 12", Math.max(12, inside.length + 1), 12);
        for (Class<?> c : inside) {
            due.is(c.getName() + " is static", Modifier.isStatic(c.getModifiers()) ? 1 : 0, 1);
            classMembers(c, names);
        }
        classMembers(LampThatFollows.class, Set.of());
    }

    private static void classMembers(Class<?> c, Set<String> names) {
        int fields = 0;
        for (Field f : c.getDeclaredFields()) {
            if (Modifier.isStatic(f.getModifiers())) due.is("static " + f, Modifier.isFinal(f.getModifiers()) ? 1 : 0, 1);
            else fields++;
        }
        due.is(c.getName() + ", at most 20 fields", Math.max(20, fields), 20);
        for (Method m : c.getDeclaredMethods()) {
            due.is(m + " bears no public one's name", names.contains(m.getName()) ? 1 : 0, 0);
            due.is(m + ", at most 7 parameters", Math.max(7, m.getParameterCount()), 7);
        }
        for (Method m : LampThatFollows.class.getDeclaredMethods()) {
            boolean hides = Modifier.isPrivate(m.getModifiers()) && FACE.matches("(.* )?" + m.getName() + "\\(.*");
            due.is(m + " bears no public one's name", hides ? 1 : 0, 0);
        }
    }

    private static void text(String code) {
        String[] forbidden = {"\\bthrow\\b", "\\btry\\b", "\\bcatch\\b", "\\bsynchronized\\b", "\\bassert\\b",
            "\\bimport\\b", "\\bpackage\\b", "->", "::", "\\bequals\\b", "\\bhashCode\\b", "\\btoString\\b",
            "\\bObject\\b", "\\bSystem\\.(?!arraycopy\\b)", "\\bMath\\.\\w*Exact\\b", "\"\"\\s*\\+", "\\+\\s*\"\"",
            "\\bfloat\\b", "\\bdouble\\b", "\\bstatic\\s*\\{", "\\bwhile\\s*\\(\\s*true", "\\bfor\\s*\\([^;]*;\\s*;",
            "\\bprotected\\b", "@"};
        for (String word : forbidden) {
            Matcher m = Pattern.compile(word).matcher(code);
            due.is("no " + word, m.find() ? m.start() : -1, -1);
        }
        Matcher m = Pattern.compile("\\bnew\\s+(\\w+)").matcher(code);
        while (m.find()) {
            boolean field = code.lastIndexOf('=', m.start()) > code.lastIndexOf('\n', m.start());
            due.is("what is made stands in a field: " + m.group(), field ? 1 : 0, 1);
        }
    }

    /** From a line that opens a method to the one that closes it, by how far they stand in. */
    private static void methods(String source) {
        String[] lines = source.split("\n");
        for (int i = 0; i < lines.length; i++) {
            Matcher m = Pattern.compile("( +)(?!.*\\b(class|return|new)\\b)[\\w\\[\\] ]+\\([\\w\\[\\], ]*\\) \\{").matcher(lines[i]);
            if (!m.matches()) continue;
            int end = i;
            while (!lines[end].equals(m.group(1) + "}")) end++;
            due.is("at most 60 lines:" + lines[i], Math.max(60, end - i + 1), 60);
        }
        for (String line : lines) due.is("at most 120 signs: " + line, Math.max(120, line.length()), 120);
    }
}
