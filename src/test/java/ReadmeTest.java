import java.io.IOException;
import java.nio.file.DirectoryStream;
import java.nio.file.Files;
import java.nio.file.Path;
import java.util.NoSuchElementException;
import java.util.Set;
import java.util.TreeSet;
import java.util.regex.Matcher;
import java.util.regex.Pattern;

/**
 * README.md, from its first line to its last: each call that it shows is made, in its order, and must answer what
 * stands behind it; each row of its table of nodes must be what the tree then has; its list of tests must be whole.
 */
public final class ReadmeTest {
    private static final Check CHECK = new Check();
    private static final Pattern NEW = Pattern.compile("TreeBuilder x = new TreeBuilder\\(\\);");
    private static final Pattern CALL = Pattern.compile("x\\.(\\w+)\\((.*?)\\); +// (throws \\w+|[\\w-]+): .+");
    private static final Pattern NODE = Pattern.compile("\\| (\\d+) \\|((?: -?\\d+ \\|){5}) .+ \\|");
    private static final Pattern TEST = Pattern.compile("\\| (\\w+Test) \\| .+ \\|");
    /** What the reader of README.md must have seen. */
    private static final Set<String> DUE = Set.of("new", "add true", "add false", "addAll true", "addAll false",
            "build nodes", "build error", "size", "nodes", "node answer", "node no node", "node no what",
            "child answer", "child no child", ".ci/run");

    private final Set<String> shown = new TreeSet<>();
    private final Set<String> tests = new TreeSet<>();
    private TreeBuilder x;
    private int rows;

    public static void main(String[] args) throws IOException {
        ReadmeTest reader = new ReadmeTest();
        boolean inCode = false;
        for (String line : Files.readAllLines(Path.of("README.md"))) {
            if (line.startsWith("```")) {
                inCode = line.equals("```java");
            } else if (inCode) {
                reader.code(line);
            } else {
                reader.text(line);
            }
        }
        CHECK.due("what README.md shows", reader.shown, new TreeSet<>(DUE));
        CHECK.due("rows of its table of nodes", reader.rows, 10);
        CHECK.due("its list of tests", reader.tests, testsThatThereAre());
        CHECK.end();
    }

    private static Set<String> testsThatThereAre() throws IOException {
        Set<String> names = new TreeSet<>();
        try (DirectoryStream<Path> files = Files.newDirectoryStream(Path.of("src/test/java"), "*Test.java")) {
            for (Path file : files) {
                names.add(file.getFileName().toString().replace(".java", ""));
            }
        }
        return names;
    }

    private void code(String line) {
        if (NEW.matcher(line).matches()) {
            x = new TreeBuilder();
            shown.add("new");
            return;
        }
        Matcher call = CALL.matcher(line);
        if (!call.matches() || x == null) {
            CHECK.due(line, "no call with its answer", "a call with its answer");
            return;
        }
        String[] given = call.group(2).isEmpty() ? new String[0] : call.group(2).split(", ");
        long[] arguments = new long[given.length];
        for (int i = 0; i < given.length; i++) {
            arguments[i] = Long.decode(given[i].replace("_", "").replace("L", ""));
        }
        note(call.group(1), arguments, call.group(3));
        CHECK.due("README.md: " + line, answer(call.group(1), arguments), call.group(3));
    }

    private String answer(String method, long[] arguments) {
        try {
            switch (method + "/" + arguments.length) {
                case "add/1":
                    return "" + x.add(Math.toIntExact(arguments[0]));
                case "addAll/1":
                    return "" + x.addAll(arguments[0]);
                case "build/0":
                    return "" + x.build();
                case "size/0":
                    return "" + x.size();
                case "nodes/0":
                    return "" + x.nodes();
                case "node/2":
                    return "" + x.node(Math.toIntExact(arguments[0]), Math.toIntExact(arguments[1]));
                case "child/2":
                    return "" + x.child(Math.toIntExact(arguments[0]), Math.toIntExact(arguments[1]));
                default:
                    return "no such method";
            }
        } catch (NoSuchElementException e) {
            return "throws " + e.getClass().getSimpleName();
        }
    }

    private void note(String method, long[] arguments, String answer) {
        boolean thrown = answer.startsWith("throws");
        switch (method) {
            case "add":
            case "addAll":
                shown.add(method + " " + answer);
                break;
            case "build":
                shown.add(answer.startsWith("-") ? "build error" : "build nodes");
                break;
            case "node":
                boolean isNode = arguments[0] >= 0 && arguments[0] < x.nodes();
                shown.add(!thrown ? "node answer" : isNode ? "node no what" : "node no node");
                break;
            case "child":
                shown.add(thrown ? "child no child" : "child answer");
                break;
            default:
                shown.add(method);
        }
    }

    private void text(String line) {
        if (line.trim().equals(".ci/run")) {
            shown.add(".ci/run");
        }
        Matcher test = TEST.matcher(line);
        if (test.matches()) {
            tests.add(test.group(1));
        }
        Matcher node = NODE.matcher(line);
        if (node.matches() && x != null) {
            int k = Integer.parseInt(node.group(1));
            CHECK.due("README.md: the node in row " + rows, k, rows);
            CHECK.due("README.md: " + line, rowOf(k), node.group(2));
            rows++;
        }
    }

    private String rowOf(int k) {
        StringBuilder row = new StringBuilder();
        for (int what = 0; what < 5 && k < x.nodes(); what++) {
            row.append(' ').append(x.node(k, what)).append(" |");
        }
        return row.toString();
    }
}
