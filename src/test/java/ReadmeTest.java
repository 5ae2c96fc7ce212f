import java.io.IOException;
import java.lang.reflect.Method;
import java.lang.reflect.Modifier;
import java.nio.file.Files;
import java.nio.file.Path;

/** README.md: its example answers as it tells, and its table of calls names every method. */
public final class ReadmeTest {
    public static void main(String[] args) throws IOException {
        String text = Files.readString(Path.of("README.md"));
        example(text);
        calls(text);
        Check.end();
    }

    private static void example(String text) {
        IntervalRouting net = new IntervalRouting();
        stands(text, "IntervalRouting net = new IntervalRouting();   // 4 nodes, no links, tick 0");
        Check.due("time()", net.time(), 0);
        stands(text, "net.addLink(0, 1, 5, 8);");
        Check.due("addLink(0, 1, 5, 8), the first link", net.addLink(0, 1, 5, 8), 1);
        stands(text, "net.addLink(1, 2, 3, 9);");
        Check.due("addLink(1, 2, 3, 9)", net.addLink(1, 2, 3, 9), 2);
        stands(text, "net.run(8);");
        Check.due("run(8)", net.run(8), 8);
        stands(text, "int least = net.distance(0, 2, 0);             // 8\n");
        Check.due("distance(0, 2, 0)", net.distance(0, 2, 0), 8);
        stands(text, "int most = net.distance(0, 2, 1);              // 17\n");
        Check.due("distance(0, 2, 1)", net.distance(0, 2, 1), 17);
        stands(text, "int next = net.choice(0, 2);                   // 1\n");
        Check.due("choice(0, 2)", net.choice(0, 2), 1);
        Check.due("reset(4), there were 4 nodes", net.reset(4), 4);
    }

    private static void calls(String text) {
        int from = Math.max(0, text.indexOf("| to | call |"));
        String table = text.substring(from, Math.max(from, text.indexOf("\n\n", from)));
        for (Method method : IntervalRouting.class.getDeclaredMethods()) {
            if (Modifier.isPublic(method.getModifiers())) {
                stands(table, "`" + method.getName() + "`");
            }
        }
    }

    private static void stands(String text, String words) {
        Check.holds("README.md has [" + words.trim() + "]", text.contains(words));
    }
}
