/** Promises 1, 2, 3, 5, 6, 7 and 8, and what build does to the tokens and the tree: the calls, not the grammar. */
public final class CallsTest {
    private static final Check CHECK = new Check();

    public static void main(String[] args) {
        newObject();
        addTakesEachKindAndNoOther();
        addRefusesBeyondTheMost();
        addAllTakesBytesFromTheHighest();
        addAllRefusesWhole();
        addAllRefusesBeyondTheMost();
        buildTakesTheTokens();
        errorLeavesNoTree();
        treeStaysWhileTokensCome();
        nodeTellsFiveThings();
        noSuchNodeOrWhat();
        childTellsNumbers();
        noSuchChild();
        objectsAreApart();
        CHECK.end();
    }

    private static void due(String call, Object got, Object want) {
        CHECK.due(call, got, want);
    }

    private static void newObject() {
        TreeBuilder x = new TreeBuilder();
        due("new: size", x.size(), 0);
        due("new: nodes", x.nodes(), 0);
        CHECK.noNode(x, 0, 0);
        CHECK.noChild(x, 0, 0);
        due("NONE", TreeBuilder.NONE, -1);
        due("new: build", x.build(), -1);
        due("new: nodes behind build", x.nodes(), 0);
    }

    private static boolean isKind(long kind) {
        return kind >= 1 && kind <= 5 || kind >= 10 && kind <= 34 || kind >= 40 && kind <= 87;
    }

    private static void addTakesEachKindAndNoOther() {
        TreeBuilder x = new TreeBuilder();
        int size = 0;
        for (int kind = -300; kind <= 600; kind++) {
            due("add(" + kind + ")", x.add(kind), isKind(kind));
            size += isKind(kind) ? 1 : 0;
            due("size behind add(" + kind + ")", x.size(), size);
        }
        int[] far = {Integer.MIN_VALUE, Integer.MAX_VALUE, 257, 1 << 8 | 1, 1 << 16 | 1, 1 << 31 | 1};
        for (int kind : far) {
            due("add(" + kind + ")", x.add(kind), false);
        }
        due("size", x.size(), 78);
    }

    private static void addRefusesBeyondTheMost() {
        TreeBuilder x = new TreeBuilder();
        for (int i = 0; i < 16384; i++) {
            if (!x.add(1)) {
                due("add number " + i, false, true);
            }
        }
        due("size", x.size(), 16384);
        due("add at 16384", x.add(1), false);
        due("add of no kind at 16384", x.add(0), false);
        due("size", x.size(), 16384);
        due("build", x.build(), -1);
        due("size behind build", x.size(), 0);
        due("add behind build", x.add(1), true);
    }

    private static void addAllTakesBytesFromTheHighest() {
        TreeBuilder x = new TreeBuilder();
        due("addAll(0)", x.addAll(0L), true);
        due("size", x.size(), 0);
        // package, nothing, NAME, nothing, nothing, ; and nothing.
        due("addAll with gaps", x.addAll(0x1B00_0100_0055_0000L), true);
        due("size", x.size(), 3);
        due("build", x.build(), 2);
        due("addAll turned round", x.addAll(0x55_01_1BL), true);
        due("build turned round", x.build(), -1);
        // Eight tokens in one word: package NAME ; const NAME = INT ;
        due("addAll of eight", x.addAll(0x1B01_550D_0146_0255L), true);
        due("size of eight", x.size(), 8);
        due("build of eight", x.build(), 8);
    }

    private static void addAllRefusesWhole() {
        TreeBuilder x = new TreeBuilder();
        due("add", x.add(27), true);
        for (int bad = 1; bad <= 255; bad++) {
            if (isKind(bad)) {
                continue;
            }
            for (int shift = 0; shift < 64; shift += 8) {
                long word = 0x0101_0101_0101_0101L & ~(255L << shift) | (long) bad << shift;
                if (x.addAll(word) || x.size() != 1) {
                    due("addAll(" + word + ")", true, false);
                }
            }
        }
        due("addAll(-1)", x.addAll(-1L), false);
        due("addAll(the least)", x.addAll(Long.MIN_VALUE), false);
        due("size", x.size(), 1);
        due("addAll", x.addAll(0x0155L), true);
        due("build", x.build(), 2);
    }

    private static void addAllRefusesBeyondTheMost() {
        TreeBuilder x = new TreeBuilder();
        for (int i = 0; i < 2047; i++) {
            x.addAll(0x0101_0101_0101_0101L);
        }
        x.addAll(0x0101_0101_0101L);
        due("size", x.size(), 16382);
        due("addAll of three", x.addAll(0x0101_01L), false);
        due("size", x.size(), 16382);
        due("addAll of two", x.addAll(0x0100_0000_0000_0001L), true);
        due("size", x.size(), 16384);
        due("addAll of one", x.addAll(0x01L), false);
        due("addAll of none", x.addAll(0L), true);
        due("addAll of no kind", x.addAll(0x06L), false);
        due("size", x.size(), 16384);
    }

    private static void buildTakesTheTokens() {
        TreeBuilder x = new TreeBuilder();
        due("build", Source.build(x, "package p ;"), 2);
        due("size", x.size(), 0);
        due("nodes", x.nodes(), 2);
        due("build of nothing", x.build(), -1);
        due("build of an error", Source.build(x, "package p"), -3);
        due("size behind an error", x.size(), 0);
        due("build anew", Source.build(x, "package p ; var a b ;"), 7);
    }

    private static void errorLeavesNoTree() {
        TreeBuilder x = new TreeBuilder();
        Source.build(x, "package p ; var a b ;");
        due("build of an error", Source.build(x, "package p ; var a b = ;"), -8);
        due("nodes", x.nodes(), 0);
        CHECK.noNode(x, 0, 0);
        CHECK.noNode(x, 1, 4);
        CHECK.noChild(x, 0, 0);
    }

    private static void treeStaysWhileTokensCome() {
        TreeBuilder x = new TreeBuilder();
        Source.build(x, "package p ; var a b ;");
        Source.give(x, Source.kinds("package p ; const"));
        x.add(0);
        x.addAll(-1L);
        due("nodes", x.nodes(), 7);
        due("node", x.node(2, 0), 8);
        due("size", x.size(), 4);
        due("build", x.build(), -5);
    }

    private static void nodeTellsFiveThings() {
        TreeBuilder x = new TreeBuilder();
        Source.build(x, "package p ; var a , b c = 1 ; type d e ;");
        int[][] want = {
            {1, 0, 14, 3, -1}, {5, 1, 1, 0, 0},
            {8, 3, 8, 1, 0}, {11, 4, 7, 3, 2}, {12, 4, 3, 2, 3}, {5, 4, 1, 0, 4}, {5, 6, 1, 0, 4}, {5, 7, 1, 0, 3},
            {13, 9, 2, 1, 3}, {88, 9, 1, 0, 8},
            {7, 11, 4, 1, 0}, {10, 12, 3, 2, 10}, {5, 12, 1, 0, 11}, {5, 13, 1, 0, 11}};
        due("nodes", x.nodes(), want.length);
        for (int k = 0; k < want.length; k++) {
            for (int what = 0; what < 5; what++) {
                due("node(" + k + ", " + what + ")", x.node(k, what), want[k][what]);
            }
        }
    }

    private static void noSuchNodeOrWhat() {
        TreeBuilder x = new TreeBuilder();
        Source.build(x, "package p ;");
        int[] far = {-1, 2, 1024, 1 << 20, Integer.MIN_VALUE, Integer.MAX_VALUE};
        for (int k : far) {
            for (int what = -1; what <= 5; what++) {
                CHECK.noNode(x, k, what);
            }
            CHECK.noChild(x, k, 0);
        }
        int[] whats = {-1, 5, Integer.MIN_VALUE, Integer.MAX_VALUE};
        for (int what : whats) {
            CHECK.noNode(x, 0, what);
            CHECK.noNode(x, 1, what);
        }
    }

    private static void childTellsNumbers() {
        TreeBuilder x = new TreeBuilder();
        Source.build(x, "package p ; var a , b c = 1 ; type d e ;");
        int[][] want = {{0, 1, 2, 10}, {2, 3}, {3, 4, 7, 8}, {4, 5, 6}, {8, 9}, {10, 11}, {11, 12, 13}};
        for (int[] row : want) {
            for (int i = 1; i < row.length; i++) {
                due("child(" + row[0] + ", " + (i - 1) + ")", x.child(row[0], i - 1), row[i]);
            }
            CHECK.noChild(x, row[0], row.length - 1);
        }
    }

    private static void noSuchChild() {
        TreeBuilder x = new TreeBuilder();
        Source.build(x, "package p ; const a ;");
        int[] far = {-1, 2, 3, Integer.MIN_VALUE, Integer.MAX_VALUE};
        for (int i : far) {
            CHECK.noChild(x, 0, i);
        }
        CHECK.noChild(x, 1, 0);
        CHECK.noChild(x, 1, -1);
        CHECK.noChild(x, 6, 0);
    }

    private static void objectsAreApart() {
        TreeBuilder one = new TreeBuilder();
        TreeBuilder other = new TreeBuilder();
        Source.build(one, "package p ;");
        other.add(1);
        due("nodes of the other", other.nodes(), 0);
        due("size of the one", one.size(), 0);
        due("nodes of the one", one.nodes(), 2);
    }
}
