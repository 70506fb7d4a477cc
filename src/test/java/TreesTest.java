import java.util.ArrayList;
import java.util.List;

/** Promises 4 to 8 on random programs whose trees are known, and on those that are too deep. */
public final class TreesTest {
    private static final Check CHECK = new Check();

    public static void main(String[] args) {
        int count = args.length > 0 ? Integer.parseInt(args[0]) : 4000;
        int whole = 0;
        int tooDeep = 0;
        boolean[] seen = new boolean[94];
        for (int seed = 0; seed < count; seed++) {
            Program program = new Program(seed, 20 + seed % 7 * 60, 30 + seed % 8 * 10);
            if (program.tooDeep < 0) {
                whole++;
                whole(program, "program " + seed, seen);
            } else {
                tooDeep++;
                tooDeep(program, "program " + seed);
            }
        }
        for (int what = 1; what < seen.length; what++) {
            boolean isRule = what <= 17 || what >= 20 && what <= 31 || what >= 40 && what <= 47
                    || what >= 50 && what <= 56 || what >= 60 && what <= 75 || what >= 80;
            CHECK.due("a node " + what + " was seen", seen[what], isRule);
        }
        System.out.println(whole + " programs, " + tooDeep + " too deep");
        CHECK.due("there are enough of both", whole > count / 4 && tooDeep > count / 100, true);
        CHECK.end();
    }

    private static void tooDeep(Program program, String title) {
        TreeBuilder x = new TreeBuilder();
        Source.give(x, program.tokens());
        CHECK.due(title + " too deep", x.build(), -1 - program.tooDeep);
        CHECK.due(title + " too deep: nodes", x.nodes(), 0);
    }

    private static void whole(Program program, String title, boolean[] seen) {
        TreeBuilder x = new TreeBuilder();
        Source.give(x, program.tokens());
        CHECK.due(title + ": size", x.size(), program.kinds.size());
        List<Program.Node> due = new ArrayList<>();
        List<Integer> parents = new ArrayList<>();
        number(program.file, TreeBuilder.NONE, due, parents);
        CHECK.due(title + ": build of " + Source.text(program.tokens()), x.build(), due.size());
        CHECK.due(title + ": nodes", x.nodes(), due.size());
        if (x.nodes() != due.size()) {
            return;
        }
        for (int k = 0; k < due.size(); k++) {
            Program.Node node = due.get(k);
            seen[node.what] = true;
            int[] got = {x.node(k, 0), x.node(k, 1), x.node(k, 2), x.node(k, 3), x.node(k, 4)};
            int[] want = {node.what, node.token, span(node), node.children.size(), parents.get(k)};
            if (!java.util.Arrays.equals(got, want)) {
                CHECK.due(title + ": node " + k, java.util.Arrays.toString(got), java.util.Arrays.toString(want));
                return;
            }
            int child = k + 1;
            for (int i = 0; i < node.children.size(); i++) {
                if (x.child(k, i) != child) {
                    CHECK.due(title + ": child(" + k + ", " + i + ")", x.child(k, i), child);
                }
                child += span(node.children.get(i));
            }
        }
    }

    private static void number(Program.Node node, int parent, List<Program.Node> due, List<Integer> parents) {
        int number = due.size();
        due.add(node);
        parents.add(parent);
        for (Program.Node child : node.children) {
            number(child, number, due, parents);
        }
    }

    private static int span(Program.Node node) {
        int span = 1;
        for (Program.Node child : node.children) {
            span += span(child);
        }
        return span;
    }
}
