import java.util.NoSuchElementException;

/** Builds the tree of a program out of its tokens, or tells the first token that can't stand where it does. */
public final class TreeBuilder {
    public static final int NONE = -1;

    private final Tokens tokens;
    private final Tree tree;

    public TreeBuilder() {
        tokens = new Tokens();
        tree = new Tree();
    }

    public boolean add(int kind) {
        if (!Kind.exists(kind) || !tokens.haveRoomFor(1)) {
            return false;
        }
        tokens.append(kind);
        return true;
    }

    public boolean addAll(long word) {
        int more = 0;
        for (int shift = 56; shift >= 0; shift -= 8) {
            int kind = byteOf(word, shift);
            if (kind != 0) {
                if (!Kind.exists(kind)) {
                    return false;
                }
                more++;
            }
        }
        if (!tokens.haveRoomFor(more)) {
            return false;
        }
        for (int shift = 56; shift >= 0; shift -= 8) {
            int kind = byteOf(word, shift);
            if (kind != 0) {
                tokens.append(kind);
            }
        }
        return true;
    }

    private static int byteOf(long word, int shift) {
        return (int) (word >>> shift) & 255;
    }

    public int build() {
        tree.beginFor(tokens.count);
        Parser parser = new Parser(tokens, tree);
        int error = NONE;
        try {
            parser.file();
        } catch (IllegalStateException refused) {
            error = parser.at;
        }
        tokens.count = 0;
        if (error != NONE) {
            return -1 - error;
        }
        tree.number();
        return tree.numbered;
    }

    public int size() {
        return tokens.count;
    }

    public int nodes() {
        return tree.numbered;
    }

    public int node(int k, int what) throws NoSuchElementException {
        if (!tree.has(k)) {
            throw new NoSuchElementException("there is no such node");
        }
        switch (what) {
            case 0:
                return tree.whatOf(k);
            case 1:
                return tree.tokenOf(k);
            case 2:
                return tree.spanOf(k);
            case 3:
                return tree.childrenOf(k);
            case 4:
                return tree.parentOf(k);
            default:
                throw new NoSuchElementException("there is no such what");
        }
    }

    public int child(int k, int i) throws NoSuchElementException {
        if (!tree.has(k) || i < 0 || i >= tree.childrenOf(k)) {
            throw new NoSuchElementException("there is no such child");
        }
        int at = k + 1;
        for (int passed = 0; passed < i; passed++) {
            at += tree.spanOf(at);
        }
        return at;
    }

    /** The kinds of tokens, and what each can begin or be. */
    private static final class Kind {
        private static final int END = 0;
        private static final int NAME = 1;
        private static final int INT = 2;
        private static final int FLOAT = 3;
        private static final int RUNE = 4;
        private static final int STRING = 5;

        private static final int BREAK = 10;
        private static final int CASE = 11;
        private static final int CHAN = 12;
        private static final int CONST = 13;
        private static final int CONTINUE = 14;
        private static final int DEFAULT = 15;
        private static final int DEFER = 16;
        private static final int ELSE = 17;
        private static final int FALLTHROUGH = 18;
        private static final int FOR = 19;
        private static final int FUNC = 20;
        private static final int GO = 21;
        private static final int IF = 23;
        private static final int INTERFACE = 25;
        private static final int MAP = 26;
        private static final int PACKAGE = 27;
        private static final int RANGE = 28;
        private static final int RETURN = 29;
        private static final int SELECT = 30;
        private static final int STRUCT = 31;
        private static final int SWITCH = 32;
        private static final int TYPE = 33;
        private static final int VAR = 34;

        private static final int PLUS = 40;
        private static final int MINUS = 41;
        private static final int STAR = 42;
        private static final int SLASH = 43;
        private static final int PERCENT = 44;
        private static final int AND = 45;
        private static final int OR = 46;
        private static final int CARET = 47;
        private static final int SHIFT_LEFT = 48;
        private static final int SHIFT_RIGHT = 49;
        private static final int AND_NOT = 50;
        private static final int PLUS_ASSIGN = 51;
        private static final int AND_NOT_ASSIGN = 61;
        private static final int BOTH = 62;
        private static final int EITHER = 63;
        private static final int ARROW = 64;
        private static final int INCREMENT = 65;
        private static final int DECREMENT = 66;
        private static final int EQUAL = 67;
        private static final int LESS = 68;
        private static final int GREATER = 69;
        private static final int ASSIGN = 70;
        private static final int NOT = 71;
        private static final int NOT_EQUAL = 73;
        private static final int LESS_EQUAL = 74;
        private static final int GREATER_EQUAL = 75;
        private static final int DEFINE = 76;
        private static final int DOTS = 77;
        private static final int LEFT_PAREN = 78;
        private static final int RIGHT_PAREN = 79;
        private static final int LEFT_BRACKET = 80;
        private static final int RIGHT_BRACKET = 81;
        private static final int LEFT_BRACE = 82;
        private static final int RIGHT_BRACE = 83;
        private static final int COMMA = 84;
        private static final int SEMICOLON = 85;
        private static final int DOT = 86;
        private static final int COLON = 87;

        private static boolean exists(int kind) {
            return kind >= NAME && kind <= STRING || kind >= BREAK && kind <= VAR || kind >= PLUS && kind <= COLON;
        }

        private static boolean beginsDecl(int kind) {
            return kind == CONST || kind == TYPE || kind == VAR;
        }

        private static boolean beginsType(int kind) {
            switch (kind) {
                case NAME:
                case LEFT_PAREN:
                case LEFT_BRACKET:
                case MAP:
                case CHAN:
                case ARROW:
                case STAR:
                case STRUCT:
                case FUNC:
                case INTERFACE:
                    return true;
                default:
                    return false;
            }
        }

        private static boolean beginsExpr(int kind) {
            return kind >= NAME && kind <= STRING || beginsType(kind) || isUnarySign(kind);
        }

        private static boolean isUnarySign(int kind) {
            switch (kind) {
                case PLUS:
                case MINUS:
                case NOT:
                case CARET:
                case STAR:
                case AND:
                case ARROW:
                    return true;
                default:
                    return false;
            }
        }

        private static boolean isOpAssign(int kind) {
            return kind >= PLUS_ASSIGN && kind <= AND_NOT_ASSIGN;
        }

        /** How tight a Binary sign binds, from 1; 0 for all other tokens. */
        private static int binding(int kind) {
            switch (kind) {
                case EITHER:
                    return 1;
                case BOTH:
                    return 2;
                case EQUAL:
                case NOT_EQUAL:
                case LESS:
                case LESS_EQUAL:
                case GREATER:
                case GREATER_EQUAL:
                    return 3;
                case PLUS:
                case MINUS:
                case OR:
                case CARET:
                    return 4;
                case STAR:
                case SLASH:
                case PERCENT:
                case SHIFT_LEFT:
                case SHIFT_RIGHT:
                case AND:
                case AND_NOT:
                    return 5;
                default:
                    return 0;
            }
        }
    }

    /** What a node is: the numbers that the document's grammar gives its rules. */
    private static final class What {
        private static final int FILE = 1;
        private static final int FUNCTION_DECL = 2;
        private static final int METHOD_DECL = 3;
        private static final int RECEIVER = 4;
        private static final int NAME = 5;
        private static final int CONSTS = 6;
        private static final int TYPE_SPECS = 7;
        private static final int VARS = 8;
        private static final int CONST = 9;
        private static final int TYPE_SPEC = 10;
        private static final int VAR = 11;
        private static final int NAMES = 12;
        private static final int EXPRS = 13;
        private static final int SIGNATURE = 14;
        private static final int PARAMS = 15;
        private static final int PARAM = 16;
        private static final int DOTS = 17;
        private static final int SLICE_TYPE = 20;
        private static final int ARRAY_TYPE = 21;
        private static final int MAP_TYPE = 22;
        private static final int CHAN_TYPE = 23;
        private static final int SEND_CHAN_TYPE = 24;
        private static final int RECEIVE_CHAN_TYPE = 25;
        private static final int POINTER_TYPE = 26;
        private static final int STRUCT_TYPE = 27;
        private static final int FIELD = 28;
        private static final int FUNCTION_TYPE = 29;
        private static final int INTERFACE_TYPE = 30;
        private static final int METHOD = 31;
        private static final int BLOCK = 40;
        private static final int LABELED = 41;
        private static final int GO = 42;
        private static final int DEFER = 43;
        private static final int RETURN = 44;
        private static final int BREAK = 45;
        private static final int CONTINUE = 46;
        private static final int FALLTHROUGH = 47;
        private static final int EXPR_STMT = 50;
        private static final int SEND = 51;
        private static final int INCREMENT = 52;
        private static final int DECREMENT = 53;
        private static final int ASSIGN = 54;
        private static final int OP_ASSIGN = 55;
        private static final int DEFINE = 56;
        private static final int IF = 60;
        private static final int INIT = 61;
        private static final int FOR = 62;
        private static final int FOR_INIT = 63;
        private static final int FOR_CONDITION = 64;
        private static final int FOR_POST = 65;
        private static final int RANGE = 66;
        private static final int RANGE_DEFINE = 67;
        private static final int SWITCH = 68;
        private static final int GUARD = 69;
        private static final int TYPES = 70;
        private static final int CASE = 71;
        private static final int DEFAULT = 72;
        private static final int SELECT = 73;
        private static final int SELECT_CASE = 74;
        private static final int SELECT_DEFAULT = 75;
        private static final int BINARY = 80;
        private static final int UNARY = 81;
        private static final int SELECTOR = 82;
        private static final int ASSERTION = 83;
        private static final int INDEX = 84;
        private static final int SLICE = 85;
        private static final int ABSENT = 86;
        private static final int CALL = 87;
        private static final int BASIC = 88;
        private static final int PAREN = 89;
        private static final int FUNCTION = 90;
        private static final int LITERAL = 91;
        private static final int ELEMENT = 92;
        private static final int INNER_LITERAL = 93;
    }

    /** The tokens that have been given since the last build. */
    private static final class Tokens {
        private static final int MOST = 16384;

        private final byte[] kinds;
        private int count;

        private Tokens() {
            kinds = new byte[MOST];
        }

        private boolean haveRoomFor(int more) {
            return more <= MOST - count;
        }

        private void append(int kind) {
            if (count >= 0 && count < kinds.length) {
                kinds[count] = (byte) kind;
                count++;
            }
        }

        private int kindAt(int i) {
            return i >= 0 && i < count && i < kinds.length ? kinds[i] : Kind.END;
        }
    }

    /**
     * The nodes, each put behind its children: so a node can be put when all that it holds is known.
     * When the last one (the File) has been put, number gives them the document's numbers.
     */
    private static final class Tree {
        private static final int FIRST_ROOM = 1024;

        private int[] whats;
        private int[] tokens;
        private int[] spans;
        private int[] counts;
        /** By the document's number: where the node has been put. */
        private int[] places;
        /** By the document's number: the parent's number. */
        private int[] parents;
        private int used;
        /** How many nodes the tree has that callers may ask for: none while one is being built. */
        private int numbered;

        private Tree() {
            whats = new int[FIRST_ROOM];
            tokens = new int[FIRST_ROOM];
            spans = new int[FIRST_ROOM];
            counts = new int[FIRST_ROOM];
            places = new int[FIRST_ROOM];
            parents = new int[FIRST_ROOM];
        }

        /**
         * Twice the tokens is room enough. A token bears two nodes at most, but for the first NAME of a
         * Const, a Var or a field, which bears three, and the token before such a NAME bears one at most.
         */
        private void beginFor(int tokenCount) {
            used = 0;
            numbered = 0;
            int need = 2 * tokenCount;
            if (need > whats.length) {
                makeRows(Math.max(need, 2 * whats.length));
            }
        }

        private void makeRows(int room) {
            if (room > 0) {
                whats = new int[room];
                tokens = new int[room];
                spans = new int[room];
                counts = new int[room];
                places = new int[room];
                parents = new int[room];
            }
        }

        private void put(int what, int token, int children) {
            int here = used;
            if (here < 0 || here >= whats.length) {
                return;
            }
            int span = 1;
            for (int i = 0; i < children; i++) {
                span += spanPutAt(here - span);
            }
            whats[here] = what;
            tokens[here] = token;
            spans[here] = span;
            counts[here] = children;
            used++;
        }

        private int spanPutAt(int place) {
            return place >= 0 && place < spans.length ? spans[place] : 0;
        }

        private void number() {
            if (used < 1 || used > places.length) {
                return;
            }
            places[0] = used - 1;
            parents[0] = NONE;
            numbered = used;
            for (int k = 0; k < numbered; k++) {
                numberChildren(k);
            }
        }

        /** From the last child to the first: the end of a node's numbers is known, and that of its places. */
        private void numberChildren(int k) {
            int end = k + spanOf(k);
            int place = placeOf(k) - 1;
            int count = childrenOf(k);
            for (int i = 0; i < count; i++) {
                int span = spanPutAt(place);
                int number = end - span;
                if (number >= 0 && number < places.length) {
                    places[number] = place;
                    parents[number] = k;
                }
                end = number;
                place -= span;
            }
        }

        private boolean has(int k) {
            return k >= 0 && k < numbered;
        }

        private int placeOf(int k) {
            return k >= 0 && k < numbered && k < places.length ? places[k] : NONE;
        }

        private int read(int[] row, int place) {
            return place >= 0 && place < row.length ? row[place] : NONE;
        }

        private int whatOf(int k) {
            return read(whats, placeOf(k));
        }

        private int tokenOf(int k) {
            return read(tokens, placeOf(k));
        }

        private int spanOf(int k) {
            return read(spans, placeOf(k));
        }

        private int childrenOf(int k) {
            return read(counts, placeOf(k));
        }

        private int parentOf(int k) {
            return has(k) ? read(parents, k) : NONE;
        }
    }

    /**
     * Goes through the tokens once, without ever going back, and puts the nodes. Each method reads one rule
     * of the grammar and refuses the token at which the rule can't go on: this is the error, since no token
     * is taken before it is sure that some program has it there.
     */
    private static final class Parser {
        private static final int DEEPEST = 30;
        /** Above the number of things that any list can hold: the bound of the loops. */
        private static final int MANY = Tokens.MOST + 1;
        private static final int BINDINGS = 5;

        /** Where a Simple stands: what it may be depends on it. */
        private static final int IN_STMTS = 0;
        private static final int IN_IF = 1;
        private static final int IN_FOR = 2;
        private static final int IN_POST = 3;
        private static final int IN_SWITCH = 4;
        private static final int IN_SELECT = 5;

        /** What was found in the place of a Simple. */
        private static final int EXPR_ALONE = 0;
        private static final int WHOLE = 1;
        private static final int BEFORE_RANGE = 2;
        private static final int GUARD = 3;

        /** What stands behind the cases of a Switch or Select. */
        private static final int CASES_OF_EXPRS = 0;
        private static final int CASES_OF_TYPES = 1;
        private static final int CASES_OF_COMMS = 2;

        /** How a Param is written. A bare NAME may be a Type, or a name that has a later one's Type. */
        private static final int BARE = 0;
        private static final int NAMED = 1;
        private static final int UNNAMED = 2;

        private final Tokens tokens;
        private final Tree tree;
        /** Binary signs whose right side is not whole yet, those of the outer Exprs first. */
        private final int[] waiting;
        private int waitingCount;
        private int at;
        /** The kind of the token at which the parser is. */
        private int kind;
        /** How many parts lie in one another here. */
        private int open;
        /** Whether a Name and '{' make no Literal here. */
        private boolean inHead;
        /** The word type of a Guard that has been read but not put yet. */
        private int guardWord;

        private Parser(Tokens tokens, Tree tree) {
            this.tokens = tokens;
            this.tree = tree;
            waiting = new int[BINDINGS * (DEEPEST + 1)];
            guardWord = NONE;
            kind = tokens.kindAt(0);
        }

        // Tokens and parts.

        private void refuse() {
            throw new IllegalStateException("no program has this token here");
        }

        private int nextKind() {
            return tokens.kindAt(at + 1);
        }

        private boolean sees(int kind) {
            return this.kind == kind;
        }

        private int take() {
            int taken = at;
            at++;
            kind = tokens.kindAt(at);
            return taken;
        }

        private boolean accept(int kind) {
            boolean seen = sees(kind);
            if (seen) {
                take();
            }
            return seen;
        }

        private int expect(int kind) {
            if (!sees(kind)) {
                refuse();
            }
            return take();
        }

        /** Opens a part whose first token is this one. */
        private void openPart() {
            if (open >= DEEPEST) {
                refuse();
            }
            open++;
        }

        private void closePart() {
            open--;
        }

        private int enter(int kind) {
            if (!sees(kind)) {
                refuse();
            }
            openPart();
            return take();
        }

        private void leave(int kind) {
            expect(kind);
            closePart();
        }

        private void putLeaf(int what) {
            tree.put(what, take(), 0);
        }

        private void name() {
            if (!sees(Kind.NAME)) {
                refuse();
            }
            tree.put(What.NAME, take(), 0);
        }

        // Declarations.

        private void file() {
            int first = expect(Kind.PACKAGE);
            name();
            expect(Kind.SEMICOLON);
            int children = 1;
            while (children < MANY && !sees(Kind.END)) {
                if (sees(Kind.FUNC)) {
                    functionDecl();
                } else if (Kind.beginsDecl(kind)) {
                    decl();
                } else {
                    refuse();
                }
                expect(Kind.SEMICOLON);
                children++;
            }
            tree.put(What.FILE, first, children);
        }

        private void functionDecl() {
            int first = take();
            boolean hasReceiver = sees(Kind.LEFT_PAREN);
            if (hasReceiver) {
                receiver();
            }
            name();
            signature();
            block();
            if (hasReceiver) {
                tree.put(What.METHOD_DECL, first, 4);
            } else {
                tree.put(What.FUNCTION_DECL, first, 3);
            }
        }

        private void receiver() {
            int first = enter(Kind.LEFT_PAREN);
            int children = 1;
            if (!sees(Kind.NAME)) {
                type();
            } else {
                name();
                if (!sees(Kind.RIGHT_PAREN)) {
                    type();
                    children++;
                }
            }
            leave(Kind.RIGHT_PAREN);
            tree.put(What.RECEIVER, first, children);
        }

        private void decl() {
            int word = kind;
            int first = take();
            int children = 1;
            if (sees(Kind.LEFT_PAREN)) {
                children = group(word);
            } else {
                spec(word);
            }
            tree.put(groupWhat(word), first, children);
        }

        private static int groupWhat(int word) {
            switch (word) {
                case Kind.CONST:
                    return What.CONSTS;
                case Kind.TYPE:
                    return What.TYPE_SPECS;
                default:
                    return What.VARS;
            }
        }

        private int group(int word) {
            boolean wasInHead = inHead;
            enter(Kind.LEFT_PAREN);
            inHead = false;
            int count = 0;
            boolean more = true;
            while (count < MANY && more && sees(Kind.NAME)) {
                spec(word);
                count++;
                more = accept(Kind.SEMICOLON);
            }
            leave(Kind.RIGHT_PAREN);
            inHead = wasInHead;
            return count;
        }

        private void spec(int word) {
            switch (word) {
                case Kind.CONST:
                    constSpec();
                    break;
                case Kind.TYPE:
                    typeSpec();
                    break;
                default:
                    varSpec();
            }
        }

        private void constSpec() {
            int first = at;
            names();
            int children = 1;
            if (Kind.beginsType(kind)) {
                type();
                children++;
                if (!sees(Kind.ASSIGN)) {
                    refuse();
                }
            }
            if (accept(Kind.ASSIGN)) {
                exprs();
                children++;
            }
            tree.put(What.CONST, first, children);
        }

        private void typeSpec() {
            int first = at;
            name();
            type();
            tree.put(What.TYPE_SPEC, first, 2);
        }

        private void varSpec() {
            int first = at;
            names();
            int children = 1;
            if (!sees(Kind.ASSIGN)) {
                type();
                children++;
            }
            if (accept(Kind.ASSIGN)) {
                exprs();
                children++;
            }
            tree.put(What.VAR, first, children);
        }

        private void names() {
            int first = at;
            name();
            int count = 1;
            while (count < MANY && accept(Kind.COMMA)) {
                name();
                count++;
            }
            tree.put(What.NAMES, first, count);
        }

        // Signatures and types.

        private void signature() {
            int first = at;
            params();
            int children = 1;
            if (sees(Kind.LEFT_PAREN)) {
                params();
                children++;
            } else if (!sees(Kind.ARROW) && Kind.beginsType(kind)) {
                type();
                children++;
            }
            tree.put(What.SIGNATURE, first, children);
        }

        private void params() {
            int first = enter(Kind.LEFT_PAREN);
            int style = BARE;
            int bare = 0;
            int count = 0;
            boolean more = true;
            while (count < MANY && more && !sees(Kind.RIGHT_PAREN)) {
                boolean last = (sees(Kind.NAME) ? nextKind() : kind) == Kind.DOTS;
                int found = param(style, bare);
                count++;
                if (found == BARE) {
                    bare++;
                } else {
                    bare = 0;
                    style = found;
                }
                more = accept(Kind.COMMA) && !last;
            }
            boolean lacksType = style == NAMED && bare > 0;
            if (lacksType) {
                refuse();
            }
            leave(Kind.RIGHT_PAREN);
            tree.put(What.PARAMS, first, count);
        }

        /** Of the Params before this one: their style, and how many NAMEs at their end are bare. */
        private int param(int style, int bare) {
            int first = at;
            int children = 1;
            int found = UNNAMED;
            if (sees(Kind.NAME) && style != UNNAMED) {
                name();
                if (!sees(Kind.DOTS) && !Kind.beginsType(kind)) {
                    tree.put(What.PARAM, first, 1);
                    return BARE;
                }
                children++;
                found = NAMED;
            }
            boolean mixed = found == UNNAMED && style == NAMED;
            boolean sharedDots = found == NAMED && bare > 0 && sees(Kind.DOTS);
            if (mixed || sharedDots) {
                refuse();
            }
            if (sees(Kind.DOTS)) {
                putLeaf(What.DOTS);
                children++;
            }
            type();
            tree.put(What.PARAM, first, children);
            return found;
        }

        private void type() {
            if (sees(Kind.NAME)) {
                name();
                return;
            }
            if (!Kind.beginsType(kind)) {
                refuse();
            }
            openPart();
            switch (kind) {
                case Kind.LEFT_PAREN:
                    take();
                    type();
                    expect(Kind.RIGHT_PAREN);
                    break;
                case Kind.LEFT_BRACKET:
                    listType();
                    break;
                case Kind.MAP:
                    mapType();
                    break;
                case Kind.CHAN:
                    chanType();
                    break;
                case Kind.ARROW:
                    receiveChanType();
                    break;
                case Kind.STAR:
                    pointerType();
                    break;
                case Kind.STRUCT:
                    structType();
                    break;
                case Kind.FUNC:
                    functionType();
                    break;
                default:
                    interfaceType();
            }
            closePart();
        }

        private void listType() {
            int first = take();
            boolean hasLength = !sees(Kind.RIGHT_BRACKET);
            if (hasLength) {
                boolean wasInHead = inHead;
                inHead = false;
                expr(false);
                inHead = wasInHead;
            }
            expect(Kind.RIGHT_BRACKET);
            type();
            if (hasLength) {
                tree.put(What.ARRAY_TYPE, first, 2);
            } else {
                tree.put(What.SLICE_TYPE, first, 1);
            }
        }

        private void mapType() {
            int first = take();
            enter(Kind.LEFT_BRACKET);
            type();
            leave(Kind.RIGHT_BRACKET);
            type();
            tree.put(What.MAP_TYPE, first, 2);
        }

        private void chanType() {
            int first = take();
            int what = accept(Kind.ARROW) ? What.SEND_CHAN_TYPE : What.CHAN_TYPE;
            type();
            tree.put(what, first, 1);
        }

        private void receiveChanType() {
            int first = take();
            expect(Kind.CHAN);
            type();
            tree.put(What.RECEIVE_CHAN_TYPE, first, 1);
        }

        private void pointerType() {
            int first = take();
            type();
            tree.put(What.POINTER_TYPE, first, 1);
        }

        private void structType() {
            int first = take();
            enter(Kind.LEFT_BRACE);
            int count = 0;
            boolean more = true;
            while (count < MANY && more && sees(Kind.NAME)) {
                int start = at;
                names();
                type();
                tree.put(What.FIELD, start, 2);
                count++;
                more = accept(Kind.SEMICOLON);
            }
            leave(Kind.RIGHT_BRACE);
            tree.put(What.STRUCT_TYPE, first, count);
        }

        private void functionType() {
            int first = take();
            signature();
            tree.put(What.FUNCTION_TYPE, first, 1);
        }

        private void interfaceType() {
            int first = take();
            enter(Kind.LEFT_BRACE);
            int count = 0;
            boolean more = true;
            while (count < MANY && more && sees(Kind.NAME)) {
                int start = at;
                name();
                signature();
                tree.put(What.METHOD, start, 2);
                count++;
                more = accept(Kind.SEMICOLON);
            }
            leave(Kind.RIGHT_BRACE);
            tree.put(What.INTERFACE_TYPE, first, count);
        }

        // Statements.

        private void block() {
            int first = enter(Kind.LEFT_BRACE);
            int count = stmts();
            leave(Kind.RIGHT_BRACE);
            tree.put(What.BLOCK, first, count);
        }

        /** Tells how many statements there were that are not nothing. */
        private int stmts() {
            int count = 0;
            boolean more = true;
            for (int turn = 0; turn < MANY && more; turn++) {
                if (stmt()) {
                    count++;
                }
                more = accept(Kind.SEMICOLON);
            }
            return count;
        }

        /** Tells whether there was one; the token is left to the caller when it begins none. */
        private boolean stmt() {
            switch (kind) {
                case Kind.CONST:
                case Kind.TYPE:
                case Kind.VAR:
                    decl();
                    return true;
                case Kind.LEFT_BRACE:
                    block();
                    return true;
                case Kind.IF:
                    ifStmt();
                    return true;
                case Kind.SWITCH:
                    switchStmt();
                    return true;
                case Kind.SELECT:
                    selectStmt();
                    return true;
                case Kind.FOR:
                    forStmt();
                    return true;
                default:
                    return wordStmt() || simpleStmt();
            }
        }

        private boolean wordStmt() {
            switch (kind) {
                case Kind.GO:
                    startStmt(What.GO);
                    return true;
                case Kind.DEFER:
                    startStmt(What.DEFER);
                    return true;
                case Kind.RETURN:
                    returnStmt();
                    return true;
                case Kind.BREAK:
                    jumpStmt(What.BREAK);
                    return true;
                case Kind.CONTINUE:
                    jumpStmt(What.CONTINUE);
                    return true;
                case Kind.FALLTHROUGH:
                    putLeaf(What.FALLTHROUGH);
                    return true;
                default:
                    return false;
            }
        }

        private void startStmt(int what) {
            int first = take();
            expr(false);
            tree.put(what, first, 1);
        }

        private void returnStmt() {
            int first = take();
            int children = 0;
            if (Kind.beginsExpr(kind)) {
                exprs();
                children++;
            }
            tree.put(What.RETURN, first, children);
        }

        private void jumpStmt(int what) {
            int first = take();
            int children = 0;
            if (sees(Kind.NAME)) {
                name();
                children++;
            }
            tree.put(what, first, children);
        }

        private boolean simpleStmt() {
            if (!Kind.beginsExpr(kind)) {
                return false;
            }
            if (sees(Kind.NAME) && nextKind() == Kind.COLON) {
                labeledStmt();
            } else {
                wholeSimple(IN_STMTS);
            }
            return true;
        }

        private void labeledStmt() {
            name();
            int colon = enter(Kind.COLON);
            int children = stmt() ? 2 : 1;
            closePart();
            tree.put(What.LABELED, colon, children);
        }

        private void wholeSimple(int place) {
            int first = at;
            if (simple(place) == EXPR_ALONE) {
                tree.put(What.EXPR_STMT, first, 1);
            }
        }

        /** An Expr alone is not put as a statement here: in a head it may be none. */
        private int simple(int place) {
            int first = at;
            expr(place == IN_SWITCH);
            if (guardWord != NONE) {
                putGuard(1);
                return GUARD;
            }
            boolean allNames = isNameFrom(first);
            int count = 1;
            while (count < MANY && accept(Kind.COMMA)) {
                int start = at;
                expr(false);
                allNames = allNames && isNameFrom(start);
                count++;
            }
            if (sees(Kind.ASSIGN)) {
                tree.put(What.EXPRS, first, count);
                return assign(place);
            }
            if (sees(Kind.DEFINE) && allNames && place != IN_POST) {
                tree.put(What.NAMES, first, count);
                return define(place, count);
            }
            if (count > 1) {
                refuse();
            }
            return behindExpr(place);
        }

        /** Whether the Expr that began there and ends here is a Name. */
        private boolean isNameFrom(int first) {
            return at == first + 1 && tokens.kindAt(first) == Kind.NAME;
        }

        private int assign(int place) {
            int sign = take();
            if (place == IN_FOR && sees(Kind.RANGE)) {
                return BEFORE_RANGE;
            }
            int first = at;
            expr(false);
            restOfExprs(place, first);
            tree.put(What.ASSIGN, sign, 2);
            return WHOLE;
        }

        private int define(int place, int nameCount) {
            int sign = take();
            if (place == IN_FOR && sees(Kind.RANGE)) {
                tree.put(What.RANGE_DEFINE, sign, 1);
                return BEFORE_RANGE;
            }
            int first = at;
            expr(place == IN_SWITCH && nameCount == 1);
            if (guardWord != NONE) {
                putGuard(2);
                return GUARD;
            }
            restOfExprs(place, first);
            tree.put(What.DEFINE, sign, 2);
            return WHOLE;
        }

        private int behindExpr(int place) {
            if (sees(Kind.ARROW)) {
                int sign = take();
                expr(false);
                tree.put(What.SEND, sign, 2);
                return WHOLE;
            }
            if (place == IN_SELECT) {
                return EXPR_ALONE;
            }
            if (sees(Kind.INCREMENT)) {
                tree.put(What.INCREMENT, take(), 1);
                return WHOLE;
            }
            if (sees(Kind.DECREMENT)) {
                tree.put(What.DECREMENT, take(), 1);
                return WHOLE;
            }
            if (Kind.isOpAssign(kind)) {
                int sign = take();
                expr(false);
                tree.put(What.OP_ASSIGN, sign, 2);
                return WHOLE;
            }
            return EXPR_ALONE;
        }

        private void putGuard(int children) {
            tree.put(What.GUARD, guardWord, children);
            guardWord = NONE;
        }

        /**
         * The [Simple] ; of a head, put as a node of its own, and WHOLE; or what stands there instead of it,
         * and what this is.
         */
        private int opening(int place, int what) {
            int children = 0;
            if (!sees(Kind.SEMICOLON)) {
                int first = at;
                int found = simple(place);
                boolean alone = found == EXPR_ALONE;
                if (alone && sees(Kind.SEMICOLON)) {
                    tree.put(What.EXPR_STMT, first, 1);
                } else if (found != WHOLE) {
                    return found;
                }
                children++;
            }
            tree.put(what, expect(Kind.SEMICOLON), children);
            return WHOLE;
        }

        private void ifStmt() {
            int first = take();
            boolean wasInHead = inHead;
            inHead = true;
            int children = 2;
            if (opening(IN_IF, What.INIT) == WHOLE) {
                expr(false);
                children++;
            }
            inHead = wasInHead;
            block();
            if (sees(Kind.ELSE)) {
                elseBranch();
                children++;
            }
            tree.put(What.IF, first, children);
        }

        private void elseBranch() {
            enter(Kind.ELSE);
            if (sees(Kind.IF)) {
                ifStmt();
            } else {
                block();
            }
            closePart();
        }

        private void forStmt() {
            int first = take();
            boolean wasInHead = inHead;
            inHead = true;
            int children = 1 + forHead();
            inHead = wasInHead;
            block();
            tree.put(What.FOR, first, children);
        }

        private int forHead() {
            if (sees(Kind.LEFT_BRACE)) {
                return 0;
            }
            if (sees(Kind.RANGE)) {
                range(0);
                return 1;
            }
            int found = opening(IN_FOR, What.FOR_INIT);
            if (found == WHOLE) {
                restOfForHead();
                return 3;
            }
            if (found == BEFORE_RANGE) {
                range(1);
            }
            return 1;
        }

        private void range(int childrenBefore) {
            int word = take();
            expr(false);
            tree.put(What.RANGE, word, childrenBefore + 1);
        }

        private void restOfForHead() {
            int children = 0;
            if (!sees(Kind.SEMICOLON)) {
                expr(false);
                children++;
            }
            int second = expect(Kind.SEMICOLON);
            tree.put(What.FOR_CONDITION, second, children);
            children = 0;
            if (!sees(Kind.LEFT_BRACE)) {
                wholeSimple(IN_POST);
                children++;
            }
            tree.put(What.FOR_POST, second, children);
        }

        private void switchStmt() {
            int first = take();
            boolean wasInHead = inHead;
            inHead = true;
            int children = 0;
            boolean guarded = false;
            if (!sees(Kind.LEFT_BRACE)) {
                int found = opening(IN_SWITCH, What.INIT);
                guarded = found == GUARD;
                children++;
                if (found == WHOLE && !sees(Kind.LEFT_BRACE)) {
                    guarded = tag();
                    children++;
                }
            }
            inHead = wasInHead;
            children += clauses(guarded ? CASES_OF_TYPES : CASES_OF_EXPRS);
            tree.put(What.SWITCH, first, children);
        }

        /** What stands behind the ; of a Switch: tells whether it is a Guard. */
        private boolean tag() {
            int first = at;
            expr(true);
            if (guardWord != NONE) {
                putGuard(1);
                return true;
            }
            if (!sees(Kind.DEFINE) || !isNameFrom(first)) {
                return false;
            }
            tree.put(What.NAMES, first, 1);
            take();
            primary(true);
            if (guardWord == NONE) {
                refuse();
            }
            putGuard(2);
            return true;
        }

        private void selectStmt() {
            int first = take();
            tree.put(What.SELECT, first, clauses(CASES_OF_COMMS));
        }

        private int clauses(int cases) {
            enter(Kind.LEFT_BRACE);
            int count = 0;
            while (count < MANY && (sees(Kind.CASE) || sees(Kind.DEFAULT))) {
                if (sees(Kind.CASE)) {
                    caseClause(cases);
                } else {
                    defaultClause(cases);
                }
                count++;
            }
            leave(Kind.RIGHT_BRACE);
            return count;
        }

        private void caseClause(int cases) {
            int first = take();
            switch (cases) {
                case CASES_OF_TYPES:
                    types();
                    break;
                case CASES_OF_COMMS:
                    wholeSimple(IN_SELECT);
                    break;
                default:
                    exprs();
            }
            clauseBody();
            tree.put(cases == CASES_OF_COMMS ? What.SELECT_CASE : What.CASE, first, 2);
        }

        private void defaultClause(int cases) {
            int first = take();
            clauseBody();
            tree.put(cases == CASES_OF_COMMS ? What.SELECT_DEFAULT : What.DEFAULT, first, 1);
        }

        private void clauseBody() {
            int colon = expect(Kind.COLON);
            tree.put(What.BLOCK, colon, stmts());
        }

        private void types() {
            int first = at;
            type();
            int count = 1;
            while (count < MANY && accept(Kind.COMMA)) {
                type();
                count++;
            }
            tree.put(What.TYPES, first, count);
        }

        // Expressions.

        private void exprs() {
            int first = at;
            expr(false);
            restOfExprs(IN_STMTS, first);
        }

        /** The Exprs behind the first one, which began there: in a Select there are none. */
        private void restOfExprs(int place, int first) {
            int count = 1;
            while (count < MANY && place != IN_SELECT && accept(Kind.COMMA)) {
                expr(false);
                count++;
            }
            tree.put(What.EXPRS, first, count);
        }

        /** Reads a Guard's Primary too where this may stand, up to the end of the Guard. */
        private void expr(boolean mayBeGuard) {
            int outer = waitingCount;
            unary(mayBeGuard);
            if (guardWord != NONE) {
                return;
            }
            for (int turn = 0; turn < MANY && Kind.binding(kind) > 0; turn++) {
                putWaiting(outer, Kind.binding(kind));
                await(take());
                unary(false);
            }
            putWaiting(outer, 1);
        }

        private void await(int sign) {
            if (waitingCount >= 0 && waitingCount < waiting.length) {
                waiting[waitingCount] = sign;
                waitingCount++;
            }
        }

        /** Puts the waiting signs of this Expr that bind at least so tight: their right sides are whole. */
        private void putWaiting(int outer, int binding) {
            int last = waitingCount - 1;
            while (last >= outer && last >= 0 && last < waiting.length
                    && Kind.binding(tokens.kindAt(waiting[last])) >= binding) {
                tree.put(What.BINARY, waiting[last], 2);
                last--;
            }
            waitingCount = last + 1;
        }

        private void unary(boolean mayBeGuard) {
            int first = at;
            int signs = 0;
            while (signs < MANY && seesUnarySign()) {
                openPart();
                take();
                signs++;
            }
            primary(mayBeGuard && signs == 0);
            for (int i = signs - 1; i >= 0; i--) {
                tree.put(What.UNARY, first + i, 1);
                closePart();
            }
        }

        private boolean seesUnarySign() {
            boolean beginsChanType = sees(Kind.ARROW) && nextKind() == Kind.CHAN;
            return Kind.isUnarySign(kind) && !beginsChanType;
        }

        private void primary(boolean mayBeGuard) {
            operand();
            boolean more = true;
            for (int turn = 0; turn < MANY && more; turn++) {
                more = behindOperand(mayBeGuard);
            }
        }

        /** Tells whether there was something that makes the former part of a larger Primary. */
        private boolean behindOperand(boolean mayBeGuard) {
            switch (kind) {
                case Kind.DOT:
                    return dot(mayBeGuard);
                case Kind.LEFT_BRACKET:
                    index();
                    return true;
                case Kind.LEFT_PAREN:
                    call();
                    return true;
                default:
                    return false;
            }
        }

        private boolean dot(boolean mayBeGuard) {
            int first = take();
            if (!sees(Kind.LEFT_PAREN)) {
                name();
                tree.put(What.SELECTOR, first, 2);
                return true;
            }
            enter(Kind.LEFT_PAREN);
            boolean isGuard = mayBeGuard && sees(Kind.TYPE);
            if (isGuard) {
                guardWord = take();
            } else {
                type();
                tree.put(What.ASSERTION, first, 2);
            }
            leave(Kind.RIGHT_PAREN);
            return !isGuard;
        }

        private void index() {
            boolean wasInHead = inHead;
            int first = enter(Kind.LEFT_BRACKET);
            inHead = false;
            if (sees(Kind.COLON)) {
                tree.put(What.ABSENT, at, 0);
            } else {
                expr(false);
            }
            int what = What.INDEX;
            int children = 2;
            if (accept(Kind.COLON)) {
                what = What.SLICE;
                children += upperBounds();
            }
            leave(Kind.RIGHT_BRACKET);
            inHead = wasInHead;
            tree.put(what, first, children);
        }

        private int upperBounds() {
            if (sees(Kind.RIGHT_BRACKET)) {
                tree.put(What.ABSENT, at, 0);
                return 1;
            }
            expr(false);
            if (!accept(Kind.COLON)) {
                return 1;
            }
            expr(false);
            return 2;
        }

        private void call() {
            boolean wasInHead = inHead;
            int first = enter(Kind.LEFT_PAREN);
            inHead = false;
            int children = 1;
            boolean more = true;
            while (children < MANY && more && !sees(Kind.RIGHT_PAREN)) {
                expr(false);
                children++;
                boolean last = sees(Kind.DOTS);
                if (last) {
                    putLeaf(What.DOTS);
                    children++;
                }
                more = accept(Kind.COMMA) && !last;
            }
            leave(Kind.RIGHT_PAREN);
            inHead = wasInHead;
            tree.put(What.CALL, first, children);
        }

        private void operand() {
            switch (kind) {
                case Kind.INT:
                case Kind.FLOAT:
                case Kind.RUNE:
                case Kind.STRING:
                    putLeaf(What.BASIC);
                    break;
                case Kind.NAME:
                    name();
                    if (!inHead && sees(Kind.LEFT_BRACE)) {
                        elements(What.LITERAL, 1);
                    }
                    break;
                case Kind.LEFT_PAREN:
                    paren();
                    break;
                case Kind.FUNC:
                    functionOrType();
                    break;
                case Kind.LEFT_BRACKET:
                case Kind.MAP:
                case Kind.STRUCT:
                    boolean counted = sees(Kind.LEFT_BRACKET) && nextKind() == Kind.DOTS;
                    if (counted) {
                        countedArrayType();
                    } else {
                        type();
                    }
                    if (counted || sees(Kind.LEFT_BRACE)) {
                        elements(What.LITERAL, 1);
                    }
                    break;
                case Kind.CHAN:
                case Kind.ARROW:
                case Kind.INTERFACE:
                    type();
                    break;
                default:
                    refuse();
            }
        }

        private void paren() {
            boolean wasInHead = inHead;
            int first = enter(Kind.LEFT_PAREN);
            inHead = false;
            expr(false);
            leave(Kind.RIGHT_PAREN);
            inHead = wasInHead;
            tree.put(What.PAREN, first, 1);
        }

        private void functionOrType() {
            openPart();
            int first = take();
            signature();
            if (sees(Kind.LEFT_BRACE)) {
                block();
                tree.put(What.FUNCTION, first, 2);
            } else {
                tree.put(What.FUNCTION_TYPE, first, 1);
            }
            closePart();
        }

        /** The Type that only a Literal has: its length is counted from the Elements. */
        private void countedArrayType() {
            openPart();
            int first = take();
            putLeaf(What.DOTS);
            expect(Kind.RIGHT_BRACKET);
            type();
            closePart();
            tree.put(What.ARRAY_TYPE, first, 2);
        }

        private void elements(int what, int childrenBefore) {
            boolean wasInHead = inHead;
            int first = enter(Kind.LEFT_BRACE);
            inHead = false;
            int children = childrenBefore;
            boolean more = true;
            while (children < MANY && more && !sees(Kind.RIGHT_BRACE)) {
                int start = at;
                value();
                boolean keyed = accept(Kind.COLON);
                if (keyed) {
                    value();
                }
                tree.put(What.ELEMENT, start, keyed ? 2 : 1);
                children++;
                more = accept(Kind.COMMA);
            }
            leave(Kind.RIGHT_BRACE);
            inHead = wasInHead;
            tree.put(what, first, children);
        }

        private void value() {
            if (sees(Kind.LEFT_BRACE)) {
                elements(What.INNER_LITERAL, 0);
            } else {
                expr(false);
            }
        }
    }
}
