import java.io.IOException;
import java.nio.file.Files;
import java.nio.file.Path;
import java.util.Set;
import java.util.TreeSet;
import java.util.regex.Matcher;
import java.util.regex.Pattern;

/** Makes the calls of README.md's example and compares the answers with those of its comments. */
public final class ReadmeTest {
    private static final Pattern BLOCK = Pattern.compile("(?s)```java\n(.*?)```");
    private static final Pattern CALL =
        Pattern.compile("x\\.(\\w+)\\(([\\d, ]*)\\);(?:\\s*// (-?\\d+)?.*)?");
    private static final Set<String> FACE = Set.of("functions", "size", "call", "page", "heat",
        "caller", "length", "row", "begin", "clusters", "cluster", "cost");
    private static int wrong = 0;

    public static void main(String[] args) throws IOException {
        String text = Files.readString(Path.of("README.md"));
        Matcher block = BLOCK.matcher(text);
        must(block.find(), "there is an example");
        Set<String> named = new TreeSet<>();
        CallClusters x = new CallClusters();
        for (String line : wrong == 0 ? block.group(1).split("\n") : new String[0]) {
            Matcher call = CALL.matcher(line);
            if (call.matches()) {
                named.add(call.group(1));
                check(x, line, call);
            } else {
                must(line.isEmpty() || line.equals("CallClusters x = new CallClusters();"),
                    "a line that is understood: " + line);
            }
        }
        must(named.equals(FACE), "every method in the example, not only " + named);
        for (String name : FACE) {
            must(text.contains("\n| `" + name + "("), name + " in the table");
        }
        System.out.println(wrong == 0 ? "README.md is true" : wrong + " faults in README.md");
        if (wrong != 0) {
            System.exit(1);
        }
    }

    private static void must(boolean holds, String what) {
        if (!holds) {
            wrong++;
            System.out.println("missing: " + what);
        }
    }

    private static void check(CallClusters x, String line, Matcher call) {
        String[] words = call.group(2).isEmpty() ? new String[0] : call.group(2).split(", ");
        int[] a = new int[3];
        for (int i = 0; i < words.length; i++) {
            a[i] = Integer.parseInt(words[i]);
        }
        long got = answer(x, call.group(1), a);
        boolean tells = Set.of("functions", "size", "page").contains(call.group(1));
        must(tells || call.group(3) != null, "an answer in the comment: " + line);
        long want = tells ? 1 : call.group(3) == null ? got : Long.parseLong(call.group(3));
        must(got == want, want + " as the answer, not " + got + ": " + line);
    }

    private static long answer(CallClusters x, String name, int[] a) {
        return switch (name) {
            case "functions" -> x.functions(a[0]) ? 1 : 0;
            case "size" -> x.size(a[0], a[1]) ? 1 : 0;
            case "call" -> x.call(a[0], a[1], a[2]);
            case "page" -> x.page(a[0]) ? 1 : 0;
            case "heat" -> x.heat(a[0]);
            case "caller" -> x.caller(a[0]);
            case "length" -> x.length();
            case "row" -> x.row(a[0]);
            case "begin" -> x.begin(a[0]);
            case "clusters" -> x.clusters();
            case "cluster" -> x.cluster(a[0]);
            case "cost" -> x.cost(a[0]);
            default -> throw new IllegalArgumentException(name);
        };
    }
}
