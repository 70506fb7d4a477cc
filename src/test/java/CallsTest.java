import java.util.Arrays;

/** Promises 1 to 8, sentence by sentence: what each call answers and changes, on both sides of its bounds. */
public final class CallsTest {
    private static final Check CHECK = new Check();
    private static final int MOST = 16384;
    private static final int[] FAR = {Integer.MIN_VALUE, Integer.MIN_VALUE + 1, -1, 1 << 20, Integer.MAX_VALUE};
    private static final String SMALL = "package p ;";
    private static final String LARGER = "package p ; var a , b c = 1 ; type d e ;";
    private static final String WRONG = "package p ; var a b = ;";

    public static void main(String[] args) {
        newHasNoTokens();
        newHasNoTree();
        addIsATokenMore();
        addOfNoKindChangesNothing();
        addAtTheMostChangesNothing();
        addAllTakesTheBytesThatAreNot0();
        addAllTakesTheHighestFirst();
        addAllOfNoKindChangesNothing();
        addAllBeyondTheMostChangesNothing();
        mostTokensBecomeATree();
        mostNodesBecomeATree();
        buildLeavesNoTokens();
        buildTellsHowManyNodes();
        buildTellsTheError();
        errorLeavesNoTree();
        sizeTellsTheTokens();
        nodesTellsTheLatestTree();
        nodeTellsFiveThings();
        noneIsTheParentOfTheFileAlone();
        noSuchNode();
        noSuchWhat();
        childTellsNumbers();
        noSuchChild();
        treeStaysWhileTokensCome();
        laterTreeTakesThePlace();
        objectsAreApart();
        as512Calls();
        CHECK.end();
    }

    private static void due(String call, Object got, Object want) {
        CHECK.due(call, got, want);
    }

    private static boolean isKind(long kind) {
        return kind >= 1 && kind <= 5 || kind >= 10 && kind <= 34 || kind >= 40 && kind <= 87;
    }

    /** No node, no child: for all that could be asked. */
    private static void hasNoTree(TreeBuilder x, String when) {
        due(when + ": nodes", x.nodes(), 0);
        for (int k = -2; k <= 30; k++) {
            for (int i = -1; i <= 5; i++) {
                CHECK.noNode(x, k, i);
                CHECK.noChild(x, k, i);
            }
        }
    }

    // Promise 1: "No tokens, no tree."

    private static void newHasNoTokens() {
        TreeBuilder x = new TreeBuilder();
        due("new: size", x.size(), 0);
        due("new: build (the END is token 0)", x.build(), -1);
        due("new: size behind build", x.size(), 0);
        TreeBuilder other = new TreeBuilder();
        other.add(27);
        due("with a token: size", other.size(), 1);
        due("with a token: build (the END is token 1)", other.build(), -2);
    }

    private static void newHasNoTree() {
        TreeBuilder x = new TreeBuilder();
        hasNoTree(x, "new");
        Source.give(x, Source.kinds(SMALL));
        hasNoTree(x, "with tokens that are not built");
        x.build();
        due("built: nodes", x.nodes(), 2);
        due("built: node(0, 0)", x.node(0, 0), 1);
        due("built: child(0, 0)", x.child(0, 0), 1);
        due("NONE", TreeBuilder.NONE, -1);
    }

    // Promise 2: "A token more; false, changing nothing, when there is no such kind, or there are 16384."

    private static void addIsATokenMore() {
        int[] edges = {1, 5, 10, 34, 40, 87};
        for (int kind : edges) {
            TreeBuilder x = new TreeBuilder();
            due("add(" + kind + ")", x.add(kind), true);
            due("size behind add(" + kind + ")", x.size(), 1);
        }
        TreeBuilder x = new TreeBuilder();
        int size = 0;
        for (int kind = 1; kind <= 87; kind++) {
            if (isKind(kind)) {
                size++;
                due("add(" + kind + ")", x.add(kind), true);
                due("size behind add(" + kind + ")", x.size(), size);
            }
        }
        due("how many kinds there are", size, 78);
    }

    private static void addOfNoKindChangesNothing() {
        TreeBuilder x = new TreeBuilder();
        Source.build(x, LARGER);
        Source.give(x, Source.kinds("package p"));
        int[] edges = {0, 6, 9, 35, 39, 88, 127, 128, 255, 256, 256 + 27, 257, 1 << 16 | 1, 1 << 31 | 1, 27 - 256};
        for (int kind : edges) {
            due("add(" + kind + ")", x.add(kind), false);
            due("size behind add(" + kind + ")", x.size(), 2);
            due("nodes behind add(" + kind + ")", x.nodes(), 14);
        }
        for (int kind : FAR) {
            due("add(" + kind + ")", x.add(kind), false);
        }
        for (int kind = -600; kind <= 600; kind++) {
            if (!isKind(kind) && (x.add(kind) || x.size() != 2)) {
                due("add(" + kind + ")", true, false);
            }
        }
        due("add(85)", x.add(85), true);
        due("build of what was there", x.build(), 2);
    }

    private static void addAtTheMostChangesNothing() {
        TreeBuilder x = new TreeBuilder();
        for (int i = 0; i < MOST - 1; i++) {
            if (!x.add(i == 0 ? 27 : 1)) {
                due("add number " + i, false, true);
            }
        }
        due("size", x.size(), MOST - 1);
        due("add of no kind at 16383", x.add(6), false);
        due("add at 16383", x.add(1), true);
        due("size", x.size(), MOST);
        due("add at 16384", x.add(1), false);
        due("add of no kind at 16384", x.add(0), false);
        due("size", x.size(), MOST);
        due("build", x.build(), -3);
        due("size behind build", x.size(), 0);
        due("add behind build", x.add(1), true);
        due("size behind add", x.size(), 1);
    }

    // Promise 3: "Up to eight tokens more: the bytes of word that are not 0, the highest first; false, changing
    // nothing, when one is no kind, or there would be more than 16384."

    private static void addAllTakesTheBytesThatAreNot0() {
        TreeBuilder x = new TreeBuilder();
        due("addAll(0)", x.addAll(0L), true);
        due("size behind addAll(0)", x.size(), 0);
        // Each set of bytes that are 0.
        int size = 0;
        for (int set = 0; set < 256; set++) {
            long word = 0;
            for (int i = 0; i < 8; i++) {
                word |= (set >> i & 1) == 0 ? 0L : 87L << 8 * i;
            }
            size += Integer.bitCount(set);
            due("addAll(" + word + ")", x.addAll(word), true);
            due("size behind addAll(" + word + ")", x.size(), size);
        }
    }

    private static void addAllTakesTheHighestFirst() {
        TreeBuilder x = new TreeBuilder();
        // package NAME ; const NAME = INT ;
        due("addAll of eight", x.addAll(0x1B01_550D_0146_0255L), true);
        due("size of eight", x.size(), 8);
        due("build of eight", x.build(), 8);
        due("addAll of eight, the lowest first", x.addAll(0x5502_4601_0D55_011BL), true);
        due("build of eight, the lowest first", x.build(), -1);
        // package, nothing, NAME, nothing, nothing, ; and nothing.
        due("addAll with gaps", x.addAll(0x1B00_0100_0055_0000L), true);
        due("size with gaps", x.size(), 3);
        due("build with gaps", x.build(), 2);
        due("addAll at the low end", x.addAll(0x1B_01_55L), true);
        due("build at the low end", x.build(), 2);
        due("addAll at the high end", x.addAll(0x1B01_5500_0000_0000L), true);
        due("build at the high end", x.build(), 2);
        // Behind the tokens that are there.
        x.add(27);
        x.addAll(0x01_55L);
        due("build of add and addAll", x.build(), 2);
    }

    private static void addAllOfNoKindChangesNothing() {
        TreeBuilder x = new TreeBuilder();
        Source.build(x, LARGER);
        due("add", x.add(27), true);
        for (int kind = 1; kind <= 255; kind++) {
            for (int shift = 0; shift < 64; shift += 8) {
                long others = 0x5757_5757_5757_5757L & ~(255L << shift);
                boolean refused = !isKind(kind);
                if (refused && (x.addAll(others | (long) kind << shift) || x.addAll((long) kind << shift))) {
                    due("addAll with " + kind + " at " + shift, true, false);
                }
                if (refused && x.size() != 1) {
                    due("size behind addAll with " + kind + " at " + shift, x.size(), 1);
                }
            }
        }
        long[] edges = {6, 9, 35, 39, 88, 127, 128, 255, -1, Long.MIN_VALUE, Long.MAX_VALUE, 0x0101_0101_0101_0106L,
            0x0601_0101_0101_0101L, 0x8000_0000_0000_0001L, 0xFFFF_FFFF_FFFF_FF01L};
        for (long word : edges) {
            due("addAll(" + word + ")", x.addAll(word), false);
            due("size behind addAll(" + word + ")", x.size(), 1);
            due("nodes behind addAll(" + word + ")", x.nodes(), 14);
        }
        due("addAll", x.addAll(0x0155L), true);
        due("build of what was there", x.build(), 2);
        long[] kinds = {1, 5, 10, 34, 40, 87, 0x5700_0000_0000_0000L};
        for (long word : kinds) {
            due("addAll(" + word + ")", x.addAll(word), true);
        }
        due("size behind seven", x.size(), 7);
    }

    private static void addAllBeyondTheMostChangesNothing() {
        for (int room = 0; room <= 9; room++) {
            for (int count = 0; count <= 8; count++) {
                TreeBuilder x = filled(MOST - room);
                long word = count == 0 ? 0 : 0x0101_0101_0101_0101L >>> 8 * (8 - count);
                String call = "addAll of " + count + " with room for " + room;
                due(call, x.addAll(word), count <= room);
                due("size behind " + call, x.size(), MOST - room + (count <= room ? count : 0));
                due("no kind behind " + call, x.addAll(6L), false);
                due("add behind " + call, x.add(1), room > (count <= room ? count : 0));
            }
        }
        TreeBuilder x = filled(MOST - 2);
        due("two with gaps between", x.addAll(0x0100_0000_0000_0001L), true);
        due("one at 16384", x.addAll(1L), false);
        due("one at 16384, the highest", x.addAll(1L << 56), false);
        due("none at 16384", x.addAll(0L), true);
        due("size", x.size(), MOST);
    }

    private static TreeBuilder filled(int size) {
        TreeBuilder x = new TreeBuilder();
        for (int i = 0; i < size / 8; i++) {
            x.addAll(0x0101_0101_0101_0101L);
        }
        for (int i = 0; i < size % 8; i++) {
            x.add(1);
        }
        due("filled", x.size(), size);
        return x;
    }

    /** What was refused at the most has left no trace in the program. */
    private static void mostTokensBecomeATree() {
        int[] kinds = Source.kinds("package p ; var a = a" + " + a".repeat(8188) + " ;");
        due("tokens of the largest program", kinds.length, MOST);
        TreeBuilder x = new TreeBuilder();
        Source.give(x, Arrays.copyOf(kinds, MOST - 1));
        due("addAll of two at 16383", x.addAll(0x55_55L), false);
        due("add of the last", x.add(85), true);
        due("add at 16384", x.add(1), false);
        due("addAll at 16384", x.addAll(0x0101L), false);
        due("build of 16384 tokens", x.build(), MOST);
        due("nodes", x.nodes(), MOST);
        due("the last node's token", x.node(MOST - 1, 1), MOST - 2);
        CHECK.noNode(x, MOST, 0);
        due("size", x.size(), 0);
        Source.give(x, Arrays.copyOf(kinds, MOST - 1));
        due("build without the last", x.build(), -1 - (MOST - 1));
        Source.give(x, Arrays.copyOf(kinds, MOST - 1));
        x.add(1);
        due("build with the last token wrong", x.build(), -1 - (MOST - 1));
        Source.give(x, Arrays.copyOf(kinds, MOST - 1));
        x.add(40);
        due("build with the END wrong", x.build(), -1 - MOST);
    }

    /** Eight nodes in five tokens, and no node in many: what there is room for does not depend on the program. */
    private static void mostNodesBecomeATree() {
        String head = "package p ; func f ( ) { switch { ";
        TreeBuilder x = new TreeBuilder();
        int[] kinds = Source.kinds(head + "case a : const a ".repeat(3274) + "} } ;");
        due("tokens of many nodes", kinds.length, MOST - 1);
        Source.give(x, kinds);
        due("build of many nodes", x.build(), 8 + 8 * 3274);
        due("the last clause", x.child(7, 3273), 8 + 8 * 3273);
        CHECK.noChild(x, 7, 3274);
        CHECK.noNode(x, 8 + 8 * 3274, 0);
        kinds = Source.kinds(head + "default : " + "; ".repeat(16369) + "} } ;");
        due("tokens of few nodes", kinds.length, MOST);
        Source.give(x, kinds);
        due("build of few nodes", x.build(), 10);
        due("the last node", x.node(9, 0), 40);
        CHECK.noNode(x, 10, 0);
    }

    // Promise 4: "The tokens, which are none then, become a tree: how many nodes it has. When there is an error:
    // -1 - the number of the token (from 0), and there is no tree then."

    private static void buildLeavesNoTokens() {
        TreeBuilder x = new TreeBuilder();
        Source.give(x, Source.kinds(SMALL));
        due("size before a build that goes well", x.size(), 3);
        due("build", x.build(), 2);
        due("size behind it", x.size(), 0);
        due("build of none", x.build(), -1);
        Source.give(x, Source.kinds(WRONG));
        due("size before a build that does not", x.size(), 8);
        due("build", x.build(), -8);
        due("size behind it", x.size(), 0);
        due("build of none", x.build(), -1);
        due("build anew", Source.build(x, SMALL), 2);
    }

    private static void buildTellsHowManyNodes() {
        TreeBuilder x = new TreeBuilder();
        due("the smallest", Source.build(x, SMALL), 2);
        due("nodes", x.nodes(), 2);
        due("a larger one", Source.build(x, LARGER), 14);
        due("nodes", x.nodes(), 14);
        due("all in the File", x.node(0, 2), 14);
    }

    private static void buildTellsTheError() {
        TreeBuilder x = new TreeBuilder();
        due("no token: the END", x.build(), -1);
        due("token 0", Source.build(x, "p package ;"), -1);
        due("token 1", Source.build(x, "package ; ;"), -2);
        due("token 2", Source.build(x, "package p p"), -3);
        due("token 3", Source.build(x, "package p ; ;"), -4);
        due("the END behind two", Source.build(x, "package p"), -3);
        due("the END behind seven", Source.build(x, "package p ; var a b ="), -8);
    }

    private static void errorLeavesNoTree() {
        TreeBuilder x = new TreeBuilder();
        Source.build(x, LARGER);
        due("nodes", x.nodes(), 14);
        due("build of an error", Source.build(x, WRONG), -8);
        hasNoTree(x, "behind an error");
        Source.build(x, LARGER);
        due("build of no tokens", x.build(), -1);
        hasNoTree(x, "behind a build of no tokens");
        Source.build(x, LARGER);
        due("too deep", Source.build(x, "package p ; var a = " + "( ".repeat(31)), -37);
        hasNoTree(x, "behind one that is too deep");
    }

    // Promise 5: "How many tokens there are."

    private static void sizeTellsTheTokens() {
        TreeBuilder x = new TreeBuilder();
        due("with none", x.size(), 0);
        x.add(27);
        due("with one", x.size(), 1);
        x.addAll(0x0155L);
        due("with three", x.size(), 3);
        x.add(0);
        x.addAll(-1L);
        due("behind refused calls", x.size(), 3);
        x.addAll(0L);
        due("behind addAll(0)", x.size(), 3);
        x.build();
        due("behind a build that went well", x.size(), 0);
        x.addAll(0x0101_0101_0101_0101L);
        due("with eight and a tree", x.size(), 8);
        x.nodes();
        x.node(0, 0);
        x.child(0, 0);
        due("behind questions", x.size(), 8);
        x.build();
        due("behind a build that did not go well", x.size(), 0);
    }

    // Promise 6: "How many nodes the latest tree has."

    private static void nodesTellsTheLatestTree() {
        TreeBuilder x = new TreeBuilder();
        due("with no tree", x.nodes(), 0);
        Source.give(x, Source.kinds(SMALL));
        due("with tokens and no tree", x.nodes(), 0);
        x.build();
        due("behind a build that went well", x.nodes(), 2);
        Source.give(x, Source.kinds(LARGER));
        due("with tokens and a tree", x.nodes(), 2);
        x.build();
        due("behind a larger one", x.nodes(), 14);
        Source.build(x, SMALL);
        due("behind a smaller one", x.nodes(), 2);
        Source.build(x, WRONG);
        due("behind a build that did not go well", x.nodes(), 0);
        x.build();
        due("behind two that did not", x.nodes(), 0);
        Source.build(x, LARGER);
        due("behind one that went well again", x.nodes(), 14);
        x.build();
        due("behind a build of no tokens", x.nodes(), 0);
    }

    // Promise 7: "Of node k (each node has its number before its children, these from the left; the File is 0): 0 what
    // it is, 1 its token, 2 how many nodes there are in it with itself, 3 how many children it has, 4 its parent (NONE
    // for the File). NoSuchElementException: there is no such node or what."

    private static void nodeTellsFiveThings() {
        TreeBuilder x = new TreeBuilder();
        Source.build(x, LARGER);
        int[][] want = {
            {1, 0, 14, 3, -1}, {5, 1, 1, 0, 0},
            {8, 3, 8, 1, 0}, {11, 4, 7, 3, 2}, {12, 4, 3, 2, 3}, {5, 4, 1, 0, 4}, {5, 6, 1, 0, 4}, {5, 7, 1, 0, 3},
            {13, 9, 2, 1, 3}, {88, 9, 1, 0, 8},
            {7, 11, 4, 1, 0}, {10, 12, 3, 2, 10}, {5, 12, 1, 0, 11}, {5, 13, 1, 0, 11}};
        due("nodes", x.nodes(), want.length);
        for (int k = 0; k < want.length; k++) {
            for (int what = 0; what < 5; what++) {
                due("node(" + k + ", " + what + ")", x.node(k, what), want[k][what]);
            }
        }
    }

    private static void noneIsTheParentOfTheFileAlone() {
        TreeBuilder x = new TreeBuilder();
        Source.build(x, LARGER);
        due("node(0, 4)", x.node(0, 4), TreeBuilder.NONE);
        for (int k = 1; k < x.nodes(); k++) {
            int parent = x.node(k, 4);
            due("the parent of " + k + " is before it", parent >= 0 && parent < k, true);
        }
        CHECK.noNode(x, TreeBuilder.NONE, 0);
        CHECK.noNode(x, TreeBuilder.NONE, 4);
    }

    private static void noSuchNode() {
        TreeBuilder x = new TreeBuilder();
        String[] programs = {SMALL, LARGER};
        for (String program : programs) {
            int nodes = Source.build(x, program);
            for (int what = 0; what < 5; what++) {
                due("the last one", x.node(nodes - 1, what) >= 0, true);
                CHECK.noNode(x, nodes, what);
                CHECK.noNode(x, nodes + 1, what);
                for (int k : FAR) {
                    CHECK.noNode(x, k, what);
                }
            }
            CHECK.noNode(x, nodes, -1);
            CHECK.noNode(x, -1, 5);
        }
    }

    private static void noSuchWhat() {
        TreeBuilder x = new TreeBuilder();
        int nodes = Source.build(x, LARGER);
        for (int k = 0; k < nodes; k++) {
            CHECK.noNode(x, k, -1);
            CHECK.noNode(x, k, 5);
            for (int what : FAR) {
                CHECK.noNode(x, k, what);
            }
            CHECK.noNode(x, k, 1 << 8);
            CHECK.noNode(x, k, 1 << 16);
        }
        due("the first what", x.node(1, 0), 5);
        due("the last what", x.node(1, 4), 0);
    }

    // Promise 8: "Child i (from 0) of node k. NoSuchElementException: there is none."

    private static void childTellsNumbers() {
        TreeBuilder x = new TreeBuilder();
        Source.build(x, LARGER);
        int[][] want = {{0, 1, 2, 10}, {1}, {2, 3}, {3, 4, 7, 8}, {4, 5, 6}, {5}, {6}, {7}, {8, 9}, {9}, {10, 11},
            {11, 12, 13}, {12}, {13}};
        for (int[] row : want) {
            int k = row[0];
            for (int i = 0; i < row.length - 1; i++) {
                due("child(" + k + ", " + i + ")", x.child(k, i), row[i + 1]);
            }
            CHECK.noChild(x, k, -1);
            CHECK.noChild(x, k, row.length - 1);
            CHECK.noChild(x, k, row.length);
        }
    }

    private static void noSuchChild() {
        TreeBuilder x = new TreeBuilder();
        int nodes = Source.build(x, LARGER);
        for (int far : FAR) {
            for (int k = 0; k < nodes; k++) {
                CHECK.noChild(x, k, far);
            }
            CHECK.noChild(x, far, 0);
            CHECK.noChild(x, far, -1);
            CHECK.noChild(x, far, far);
        }
        CHECK.noChild(x, nodes, 0);
        CHECK.noChild(x, nodes, -1);
        due("the File's last child", x.child(0, 2), 10);
        CHECK.noChild(x, 0, 3);
    }

    // What the promises say together.

    private static void treeStaysWhileTokensCome() {
        TreeBuilder x = new TreeBuilder();
        Source.build(x, "package p ; var a b ;");
        Source.give(x, Source.kinds("package p ; const"));
        x.add(0);
        x.addAll(-1L);
        due("nodes", x.nodes(), 7);
        due("node", x.node(2, 0), 8);
        due("child", x.child(0, 1), 2);
        due("size", x.size(), 4);
        due("build", x.build(), -5);
    }

    private static void laterTreeTakesThePlace() {
        TreeBuilder x = new TreeBuilder();
        Source.build(x, LARGER);
        Source.build(x, "package p ; const a ;");
        due("what node 2 is now", x.node(2, 0), 6);
        due("the last node", x.node(5, 0), 5);
        CHECK.noNode(x, 6, 0);
        CHECK.noChild(x, 0, 2);
        Source.build(x, LARGER);
        due("what node 2 is again", x.node(2, 0), 8);
        due("child(0, 2)", x.child(0, 2), 10);
    }

    private static void objectsAreApart() {
        TreeBuilder one = new TreeBuilder();
        TreeBuilder other = new TreeBuilder();
        Source.build(one, SMALL);
        other.add(1);
        due("nodes of the other", other.nodes(), 0);
        due("size of the one", one.size(), 0);
        due("nodes of the one", one.nodes(), 2);
    }

    /** "An object is used for at most 512 calls": the largest programs and the most builds that fit in them. */
    private static void as512Calls() {
        TreeBuilder large = new TreeBuilder();
        int[] kinds = Source.kinds("package p ; var a = a" + " + a".repeat(2040) + " ;");
        due("calls that give its tokens", (kinds.length + 7) / 8, 511);
        Source.give(large, kinds);
        due("build of the largest", large.build(), 8 + 2 * 2040);
        TreeBuilder many = new TreeBuilder();
        for (int i = 0; i < 256; i++) {
            long word = i % 2 == 0 ? 0x1B_01_55L : 0x1B_01L;
            if (!many.addAll(word) || many.build() != (i % 2 == 0 ? 2 : -3)) {
                due("build number " + i, false, true);
            }
        }
        due("size behind 512 calls", many.size(), 0);
    }
}
