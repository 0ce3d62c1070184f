import java.io.IOException;
import java.lang.reflect.Method;
import java.lang.reflect.Modifier;
import java.nio.charset.StandardCharsets;
import java.nio.file.Files;
import java.nio.file.Path;

/** README.md tells what holds: its calls answer as it says, its text has no fault, its list has every call. */
public final class ReadmeTest {
    private static final Check CHECK = new Check("ReadmeTest");
    private static final String FENCE = "```";
    private static String page = "";

    public static void main(String[] args) throws IOException {
        page = new String(Files.readAllBytes(Path.of("README.md")), StandardCharsets.UTF_8);
        callsOfThePage();
        textOfThePage();
        everyCallIsListed();
        everyTestIsListed();
        CHECK.end();
    }

    private static void callsOfThePage() {
        SockTable x = new SockTable();
        call("x.feed(0x736f636b, 0x20612032, 0x3b20736f, 0x636b2062, 0x20323b20);", "20",
            x.feed(0x736f636b, 0x20612032, 0x3b20736f, 0x636b2062, 0x20323b20));
        call("x.back(1);", "19", x.back(1));
        call("x.read();", "0", x.read());
        call("x.place();", "-1", x.place());
        call("x.draw(0);", "0", x.draw(0));
        call("x.draw(0);", "1", x.draw(0));
        call("x.draw(0);", "-1", x.draw(0));
        call("x.undo();", "true", x.undo());
        call("x.within(2);", "6", x.within(2));
    }

    /** The page has this call, with this answer behind it. */
    private static void call(String code, String answer, Object got) {
        boolean told = false;
        for (String line : page.split("\n")) {
            told |= line.startsWith(code) && line.substring(code.length()).trim().startsWith("// " + answer + ":");
        }
        CHECK.due("the page tells that " + code + " answers " + answer, told, true);
        CHECK.due(code + " answers " + answer + ", not " + got, String.valueOf(got).equals(answer), true);
    }

    private static int four(String text, int from) {
        int word = 0;
        for (int i = from; i < from + 4; i++) {
            word = word << 8 | (i < text.length() ? text.charAt(i) : ' ');
        }
        return word;
    }

    private static int tell(SockTable x, String text) {
        for (int i = 0; i < text.length(); i += 20) {
            x.feed(four(text, i), four(text, i + 4), four(text, i + 8), four(text, i + 12), four(text, i + 16));
        }
        return x.read();
    }

    private static void textOfThePage() {
        int from = page.indexOf("A whole text");
        from = page.indexOf(FENCE, from) + FENCE.length();
        String text = page.substring(from, page.indexOf(FENCE, from));
        for (String word : new String[] {"sock", "glove", "like", "near", "table", "full", "line", "seed", "lose"}) {
            CHECK.due("the page's text has " + word, text.contains(word + " "), true);
        }
        SockTable x = new SockTable();
        CHECK.due("read() of the page's text", tell(x, text), 0);
        int[] counts = {4, 3, 11, 11, 0, 0, 2, 2, 0, 4, 9, 0, 0, 0, 0};
        for (int i = 0; i < counts.length; i++) {
            CHECK.due("count(" + i + ") by the page's text", x.count(i), counts[i]);
        }
        CHECK.due("unlike(0, 1) by the page's text", x.unlike(0, 1), 5);
    }

    private static void everyCallIsListed() {
        for (Method m : SockTable.class.getDeclaredMethods()) {
            if (Modifier.isPublic(m.getModifiers())) {
                CHECK.due("the page lists " + m.getName(), page.contains("\n| `" + m.getName() + "("), true);
            }
        }
    }

    private static void everyTestIsListed() throws IOException {
        try (var files = Files.list(Path.of("src/test/java"))) {
            for (Path file : (Iterable<Path>) files::iterator) {
                String name = file.getFileName().toString().replace(".java", "");
                CHECK.due("the page names " + name, page.contains("`" + name + "`"), true);
            }
        }
    }
}
