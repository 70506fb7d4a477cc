import java.util.Arrays;

/**
 * Holds the class to one sentence of the document at a time, by texts on both sides of what it allows. A row is
 * either a text that is well, and behind => the nodes that are due (as Source.dump shows them, the tokens counted
 * from the row's first one); or a text in which the token behind # is the error (at the text's end: the END).
 */
final class Sentences {
    private final Check check;

    Sentences(Check check) {
        this.check = check;
    }

    /** The rows are whole programs; all nodes are told. */
    void files(String words, String... rows) {
        hold(words, "", "", rows);
    }

    /** The rows are a Top; its nodes are told. */
    void tops(String words, String... rows) {
        hold(words, "package p ; ", " ;", rows);
    }

    /** The rows are the Type of a TypeSpec; its nodes are told. */
    void types(String words, String... rows) {
        hold(words, "package p ; type t ", " ;", rows);
    }

    /** The rows are the Stmts of a function's Block; their nodes are told. */
    void stmts(String words, String... rows) {
        hold(words, Source.IN_FUNCTION, " } ;", rows);
    }

    private void hold(String words, String before, String behind, String[] rows) {
        int well = 0;
        for (String row : rows) {
            if (row.contains("#")) {
                error(words, before + row + (row.endsWith("#") ? "" : behind));
            } else {
                well++;
                well(words, before, row, behind);
            }
        }
        check.due(words + ": has both sides", well > 0 && well < rows.length, true);
    }

    private void well(String words, String before, String row, String behind) {
        int arrow = row.indexOf("=>");
        String text = row.substring(0, arrow);
        String want = row.substring(arrow + 2).trim();
        TreeBuilder x = new TreeBuilder();
        int[] kinds = Source.kinds(before + text + behind);
        Source.give(x, kinds);
        int nodes = x.build();
        check.due(words + ": " + text, nodes < 0 ? "error " + nodes : nodesOf(x, before), want);
        if (nodes > 0) {
            cut(words + ": " + text, kinds, x.node(0, 3));
        }
    }

    private static String nodesOf(TreeBuilder x, String before) {
        int from = Source.kinds(before).length;
        switch (from) {
            case 0:
                return Source.dump(x, 0, from);
            case 3:
                return Source.dump(x, x.child(0, 1), from);
            case 5:
                return Source.dump(x, x.child(x.child(x.child(0, 1), 0), 1), from);
            default:
                return Source.dumpChildren(x, 6, from);
        }
    }

    /** Of a program's beginnings those up to a Top's ; are programs; in all others just the END is the error. */
    private void cut(String text, int[] kinds, int programs) {
        int found = 0;
        for (int length = 0; length <= kinds.length; length++) {
            int answer = buildFirst(kinds, length);
            if (answer > 0) {
                found++;
            } else {
                check.due(text + " cut at " + length, answer, -1 - length);
            }
        }
        check.due(text + ": beginnings that are programs", found, programs);
    }

    private void error(String words, String marked) {
        int error = Source.kinds(marked.substring(0, marked.indexOf('#'))).length;
        String text = words + ": " + marked;
        int[] kinds = Source.kinds(marked.replace("#", ""));
        TreeBuilder x = new TreeBuilder();
        Source.give(x, kinds);
        check.due(text, x.build(), -1 - error);
        check.due(text + ": nodes", x.nodes(), 0);
        check.due(text + ": size", x.size(), 0);
        check.due(text + " cut behind the error", buildFirst(kinds, Math.min(error + 1, kinds.length)), -1 - error);
        int before = buildFirst(kinds, error);
        check.due(text + " cut before the error", before > 0 ? -1 - error : before, -1 - error);
    }

    private static int buildFirst(int[] kinds, int length) {
        TreeBuilder x = new TreeBuilder();
        Source.give(x, Arrays.copyOf(kinds, length));
        return x.build();
    }
}
