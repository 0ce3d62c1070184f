import java.io.IOException;
import java.lang.reflect.Constructor;
import java.lang.reflect.Field;
import java.lang.reflect.Method;
import java.lang.reflect.Modifier;
import java.nio.charset.StandardCharsets;
import java.nio.file.Files;
import java.nio.file.Path;
import java.util.ArrayDeque;
import java.util.Deque;
import java.util.HashSet;
import java.util.Set;
import java.util.TreeSet;
import java.util.regex.Matcher;
import java.util.regex.Pattern;

/** The face as the document tells it, and those rules of LANGUAGE.md that can be looked for in the source. */
public final class LanguageTest {
    private static final Check CHECK = new Check("LanguageTest");
    private static final String SOURCE = "src/main/java/SockTable.java";
    private static final String[] FACE = {"int feed(int,int,int,int,int)", "int back(int)", "int read()", "int place()", "int kind(int,int)",
        "int unlike(int,int)", "int draw(int)", "int lot()", "boolean take(int)", "boolean undo()", "long within(int)", "long lies(int)",
        "long mosts()", "int sure(int,int)", "int evening(int)", "int soonest(int,int)", "int line()", "int exchange(int)", "int odd(int)",
        "long lost(int,int,int)", "int years(int,int)", "int see(int,int)", "int forget()", "long rows(int,int)", "int span(int,int,int)",
        "boolean hold(int)", "boolean restore(int)", "int count(int)"};
    private static final String[] FORBIDDEN = {"throw", "throws", "try", "catch", "finally", "synchronized", "assert", "import", "package",
        "protected", "volatile", "transient", "native", "System.out", "hashCode", "toString", "equals", "Exact", "->", "::", "\"\"\"", "var ",
        "this::", "yield"};

    public static void main(String[] args) throws IOException {
        face();
        String source = new String(Files.readAllBytes(Path.of(SOURCE)), StandardCharsets.UTF_8);
        plainSigns(source);
        String code = source.replaceAll("(?s)/\\*.*?\\*/", "").replaceAll("//[^\n]*", "").replaceAll("\"[^\"\n]*\"", "\"\"");
        forbidden(code);
        sizes(code);
        objects(code);
        CHECK.end();
    }

    private static String signature(Method m) {
        StringBuilder text = new StringBuilder(m.getReturnType() + " " + m.getName() + "(");
        for (Class<?> type : m.getParameterTypes()) {
            text.append(text.charAt(text.length() - 1) == '(' ? "" : ",").append(type);
        }
        return text + ")";
    }

    private static void face() {
        Class<?> c = SockTable.class;
        CHECK.due("public final", c.getModifiers(), Modifier.PUBLIC | Modifier.FINAL);
        Set<String> want = new TreeSet<>(Set.of(FACE));
        Set<String> names = new HashSet<>();
        for (String one : FACE) {
            names.add(one.replaceAll("^\\S+ |\\(.*", ""));
        }
        for (Method m : c.getDeclaredMethods()) {
            boolean ofFace = want.remove(signature(m)) && m.getModifiers() == Modifier.PUBLIC;
            boolean own = Modifier.isPrivate(m.getModifiers()) && !names.contains(m.getName());
            CHECK.due("method " + m, ofFace || own, true);
        }
        CHECK.due("methods that are missing: " + want, want.size(), 0);
        for (Constructor<?> one : c.getDeclaredConstructors()) {
            CHECK.due("constructor " + one, one.getModifiers() == Modifier.PUBLIC && one.getParameterCount() == 0, true);
        }
        for (Field f : c.getDeclaredFields()) {
            boolean none = f.getName().equals("NONE") && f.getModifiers() == (Modifier.PUBLIC | Modifier.STATIC | Modifier.FINAL);
            CHECK.due("field " + f, none || Modifier.isPrivate(f.getModifiers()), true);
        }
        CHECK.due("classes", c.getDeclaredClasses().length < 12, true);
        for (Class<?> inner : c.getDeclaredClasses()) {
            CHECK.due("static " + inner, Modifier.isStatic(inner.getModifiers()) && !Modifier.isPublic(inner.getModifiers()), true);
            CHECK.due("fields of " + inner, inner.getDeclaredFields().length <= 22, true);
            for (Method m : inner.getDeclaredMethods()) {
                CHECK.due("a name of the face: " + m, names.contains(m.getName()), false);
            }
        }
    }

    private static void plainSigns(String source) {
        for (int i = 0; i < source.length(); i++) {
            char c = source.charAt(i);
            if (c > 126 || c < 32 && c != '\n') {
                CHECK.due("sign " + (int) c + " at " + i, false, true);
            }
        }
    }

    private static void forbidden(String code) {
        for (String word : FORBIDDEN) {
            String pattern = Character.isLetter(word.charAt(0)) && !word.equals("Exact") ? "\\b" + word + "\\b" : Pattern.quote(word);
            CHECK.due("uses " + word, Pattern.compile(pattern).matcher(code).find(), false);
        }
        CHECK.due("joins texts", Pattern.compile("\"\\s*\\+|\\+\\s*\"").matcher(code).find(), false);
        CHECK.due("double or float", Pattern.compile("\\b(double|float)\\b").matcher(code).find(), false);
    }

    /** Methods stay under some sixty lines, with seven parameters at most. */
    private static void sizes(String code) {
        String[] lines = code.split("\n");
        Deque<Integer> open = new ArrayDeque<>();
        for (int i = 0; i < lines.length; i++) {
            for (char c : lines[i].toCharArray()) {
                if (c == '{') {
                    open.push(i);
                } else if (c == '}') {
                    int from = open.pop();
                    boolean isClass = lines[from].contains(" class ");
                    CHECK.due("lines of the block from " + (from + 1), isClass || i - from <= 60, true);
                }
            }
        }
        Matcher m = Pattern.compile("\\(([^()]*)\\) \\{").matcher(code);
        while (m.find()) {
            CHECK.due("parameters " + m.group(1), m.group(1).split(",").length <= 7, true);
        }
    }

    /** Everything is made with the object: nothing is made by a call. */
    private static void objects(String code) {
        for (String line : code.split("\n")) {
            if (line.contains("new ")) {
                boolean field = line.matches("\\s*(private |static |final )+.*= new .*;");
                boolean row = line.matches("\\s*(past|slots)\\[i\\] = new State\\(\\);");
                CHECK.due("made: " + line.trim(), field || row, true);
                boolean alone = line.matches(".*new (\\w+\\(\\)|\\w+\\[.+\\]);");
                CHECK.due("is handed nothing: " + line.trim(), alone, true);
            }
        }
        CHECK.due("an object hands itself out", Pattern.compile("[(,] *this *[,)]|= this;|return this;").matcher(code).find(), false);
    }
}
