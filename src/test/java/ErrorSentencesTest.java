/**
 * The paragraph 'An ERROR is ..', sentence by sentence. In a row of parts the $ is where as many units as told are put,
 * each of them one part that ends where what stands behind it ends: Unary signs before an Expr, * before a Type,
 * labels before a Stmt. The token behind # then opens part 30 or 31.
 */
public final class ErrorSentencesTest {
    private static final Check CHECK = new Check();
    private static final int MOST = 30;
    private static final String EXPR = "- ";
    private static final String TYPE = "* ";
    private static final String STMT = "l : ";

    public static void main(String[] args) {
        firstToken();
        end();
        moreThanThirty();
        programSoFar();
        types();
        typesFromTheirFirstToken();
        functions();
        parens();
        brackets();
        braces();
        unarySigns();
        elses();
        labels();
        nothingElse();
        CHECK.end();
    }

    private static int build(String text) {
        TreeBuilder x = new TreeBuilder();
        int answer = Source.build(x, "package p ; " + text);
        CHECK.due(text + ": nodes", x.nodes(), answer > 0 ? answer : 0);
        CHECK.due(text + ": size", x.size(), 0);
        return answer;
    }

    private static void well(String text) {
        CHECK.due(text, build(text) > 0, true);
    }

    private static void error(String text) {
        String before = "package p ; " + text.substring(0, text.indexOf('#'));
        CHECK.due(text, build(text.replace("#", "")), -1 - Source.kinds(before).length);
    }

    private static String put(String row, String unit, int count) {
        return row.replace("$ ", unit.repeat(count));
    }

    /** Behind # is a token that opens a part, and with it so many lie in one another: none in the row are deeper. */
    private static void part(String row, String unit, int parts) {
        well(put(row, unit, MOST - parts).replace("# ", ""));
        error(put(row, unit, MOST - parts + 1));
    }

    /** Likewise, but the row must go deeper: behind ## is the token that opens the next part. */
    private static void partBefore(String row, String unit, int parts) {
        error(put(row.replace("## ", "@").replace("# ", "").replace("@", "# "), unit, MOST - parts));
        error(put(row.replace("## ", ""), unit, MOST - parts + 1));
    }

    /** "An ERROR is the first token that no program can have there behind those before it". */
    private static void firstToken() {
        error("var a = b # c d ) ( ;");
        error("var a b # ) ; var ) ;");
        error("# ~ ~");
        error("var # ~");
        error("func f ( ) { if a { # ) } else ) } ;");
        well("var a = b ; var c d ;");
        TreeBuilder x = new TreeBuilder();
        CHECK.due("the first of all", Source.build(x, "~ package"), -1);
        CHECK.due("the second", Source.build(x, "package ~"), -2);
        CHECK.due("the third", Source.build(x, "package p ~"), -3);
        // Each kind in the places of the first three tokens, where only one can stand.
        for (int kind = 1; kind <= 87; kind++) {
            boolean exists = kind <= 5 || kind >= 10 && kind <= 34 || kind >= 40;
            if (exists) {
                x.add(kind);
                CHECK.due("kind " + kind + " first", x.build(), kind == 27 ? -2 : -1);
                x.addAll(27L << 8 | kind);
                CHECK.due("kind " + kind + " behind package", x.build(), kind == 1 ? -3 : -2);
                x.addAll(27L << 16 | 1 << 8 | kind);
                CHECK.due("kind " + kind + " behind package NAME", x.build(), kind == 85 ? 2 : -3);
            }
        }
    }

    /** "(the END, perhaps)": its number is that of the tokens. */
    private static void end() {
        TreeBuilder x = new TreeBuilder();
        CHECK.due("no tokens", x.build(), -1);
        CHECK.due("one token", Source.build(x, "package"), -2);
        CHECK.due("two tokens", Source.build(x, "package p"), -3);
        CHECK.due("three tokens", Source.build(x, "package p ;"), 2);
        error("var a b #");
        error("func f ( ) { } #");
        error("func f ( ) { #");
        error("var a = " + "( ".repeat(MOST) + "#");
        error("var a = " + "( ".repeat(MOST) + "a " + ") ".repeat(MOST) + "#");
        well("var a = " + "( ".repeat(MOST) + "a " + ") ".repeat(MOST) + ";");
    }

    /** "the first token at which more than 30 parts lie in one another". */
    private static void moreThanThirty() {
        well("var a = " + "( ".repeat(30) + "a " + ") ".repeat(30) + ";");
        error("var a = " + "( ".repeat(30) + "# ( a " + ") ".repeat(31) + ";");
        error("var a = " + "( ".repeat(30) + "# " + "( ".repeat(200) + "a " + ") ".repeat(230) + ";");
        // Parts of all kinds count together: 4 in each turn, since a Type has ended before the '(' behind it.
        String turn = "( - a [ [ ] b ( ";
        String turnEnd = ") ] ) ";
        well("var a = " + turn.repeat(6) + "( ".repeat(6) + "a " + ") ".repeat(6) + turnEnd.repeat(6) + ";");
        error("var a = " + turn.repeat(6) + "( ".repeat(6) + "# ( a " + ") ".repeat(7) + turnEnd.repeat(6) + ";");
        // In each of 30 parts, and around them, a sign of each binding waits for its right side.
        String signs = "b || c && d == e + f * ";
        String waiting = "var a = " + (signs + "( ").repeat(30) + signs + "g " + ") ".repeat(30) + ";";
        CHECK.due(waiting, build(waiting), 7 + 30 * 11 + 10 + 1);
        error("var a = " + (signs + "( ").repeat(30) + signs + "# ( g " + ") ".repeat(31) + ";");
        // As many as one likes, one behind another.
        well("var a = " + "( - a ) + ".repeat(300) + "a ;");
        well("var a = a " + "( b ) [ c ] ".repeat(300) + ";");
    }

    /** "or, when the program is one so far": what comes first is the error. */
    private static void programSoFar() {
        error("var a = b # c " + "( ".repeat(40) + ";");
        error("var a = " + "( ".repeat(30) + "# ) ( ;");
        error("var a = " + "( ".repeat(30) + "# ( ) ;");
        error("var a = " + "( ".repeat(29) + "( # ) ;");
        error("var a = " + "( ".repeat(30) + "# { ;");
        error("var a = " + "( ".repeat(30) + "a # ;");
    }

    /** "Types that are no Names". */
    private static void types() {
        String[] alone = {"( b )", "[ ] b", "[ 1 ] b", "chan b", "chan <- b", "<- chan b", "* b"};
        for (String type : alone) {
            part("var a $ # " + type + " ;", TYPE, 1);
            part("var a [ ] map [ $ # " + type + " ] c ;", TYPE, 4);
            part("func f ( a $ # " + type + " ) { } ;", TYPE, 2);
            part("func ( a $ # " + type + " ) f ( ) { } ;", TYPE, 2);
            part("func f ( ) ( $ # " + type + " ) { } ;", TYPE, 2);
            part("func f ( ) { a . ( $ # " + type + " ) } ;", TYPE, 3);
            part("func f ( ) { switch a . ( type ) { case $ # " + type + " : } } ;", TYPE, 3);
            part("var a struct { b $ # " + type + " } ;", TYPE, 3);
        }
        String[] operands = {"[ ] b", "[ 1 ] b", "chan b", "chan <- b", "<- chan b", "[ ] b { }", "[ ... ] b { }"};
        for (String type : operands) {
            part("var a = $ # " + type + " ;", EXPR, 1);
        }
        // A Name opens none, nor does what has ended.
        well("var a " + TYPE.repeat(30) + "b ;");
        well("var a struct { " + ("b " + TYPE.repeat(28) + "c ; ").repeat(3) + "} ;");
        well("var a = " + "[ ] ".repeat(30) + "a ( b ) ;");
        well("var a = " + "[ ] ".repeat(30) + "a { b ( ) } ;");
        well("func f ( a " + TYPE.repeat(29) + "b , c " + TYPE.repeat(29) + "d ) " + TYPE.repeat(30) + "e { } ;");
        part("var a func ( ) $ # * b ;", TYPE, 2);
    }

    /** "Types .. from their first token on": the token that opens a part comes before the Type's own brackets. */
    private static void typesFromTheirFirstToken() {
        String[] rows = {"map ## [ b ] c", "struct ## { }", "struct ## { b c }", "func ## ( )", "interface ## { }"};
        for (String row : rows) {
            partBefore("var a $ # " + row + " ;", TYPE, 1);
            partBefore("var a = $ # " + row + " ;", EXPR, 1);
            partBefore("func f ( ) { a . ( $ # " + row + " ) } ;", TYPE, 3);
        }
        // They last to the Type's end: behind a map's ']' its own part still lies around the next.
        part("var a map [ b ] $ # * c ;", TYPE, 2);
        part("var a [ b ] $ # * c ;", TYPE, 2);
        part("var a func ( ) $ # [ ] c ;", TYPE, 2);
        part("var a = [ $ # - b ] c ;", EXPR, 2);
        well("var a map [ b ] " + TYPE.repeat(29) + "c ;");
        error("var a map [ b ] " + TYPE.repeat(29) + "# * c ;");
    }

    /** "and functions (90), from their first token on". */
    private static void functions() {
        partBefore("var a = $ # func ## ( ) { } ;", EXPR, 1);
        part("var a = $ func # ( ) { } ;", EXPR, 2);
        part("var a = func ( ) { $ # { } } ;", STMT, 3);
        part("var a = func ( ) { b ( $ # - c ) } ;", EXPR, 4);
        well("var a = " + EXPR.repeat(28) + "func ( ) { } ( ) ;");
        well("var a = " + EXPR.repeat(28) + "func ( ) ( b ) { } ;");
        error("var a = " + EXPR.repeat(28) + "func ( ) { # { } } ;");
        error("var a = " + EXPR.repeat(28) + "func ( ) { b # ( ) } ;");
        // A function that has ended lies around nothing; that of a Top is no 90.
        part("var a = func ( ) { } ( $ # - b ) ;", EXPR, 2);
        part("func f ( ) { $ # { } } ;", STMT, 2);
    }

    /** "'(' .. that are no first tokens of these". */
    private static void parens() {
        part("var a = $ # ( b ) ;", EXPR, 1);
        part("var a = $ b # ( ) ;", EXPR, 1);
        part("var a = $ b # ( c ) ;", EXPR, 1);
        part("var a = $ b . # ( c ) ;", EXPR, 1);
        part("func f ( ) { $ var # ( ) } ;", STMT, 2);
        part("func f ( ) { $ const # ( b ) } ;", STMT, 2);
        part("func f ( ) { $ type # ( b c ) } ;", STMT, 2);
        part("func f ( ) { $ switch b . # ( type ) { } } ;", STMT, 2);
        part("var a $ func # ( ) ;", TYPE, 2);
        part("var a $ func # ( ) ( ) ;", TYPE, 2);
        part("var a $ interface { b # ( ) } ;", TYPE, 3);
        part("var ( a $ # * b ) ;", TYPE, 2);
        part("func ( a $ # * b ) f ( ) { } ;", TYPE, 2);
        part("func f ( $ # * b ) { } ;", TYPE, 2);
        part("func f ( ) ( $ # * b ) { } ;", TYPE, 2);
        well("var a = " + EXPR.repeat(29) + "b ( ) ( ) . ( c ) ;");
    }

    /** "'[' .. that are no first tokens of these". */
    private static void brackets() {
        part("var a = $ b # [ c ] ;", EXPR, 1);
        part("var a = $ b # [ : ] ;", EXPR, 1);
        part("var a = $ b # [ c : d : e ] ;", EXPR, 1);
        part("var a = b [ $ # - c ] ;", EXPR, 2);
        part("var a = b [ c : $ # - d ] ;", EXPR, 2);
        part("var a $ map # [ b ] c ;", TYPE, 2);
        part("var a = $ map # [ b ] c ;", EXPR, 2);
        // Those that are first tokens count once.
        part("var a $ # [ ] b ;", TYPE, 1);
        part("var a $ # [ 1 ] b ;", TYPE, 1);
        well("var a = " + EXPR.repeat(29) + "b [ c ] [ d ] ;");
        well("var a = " + EXPR.repeat(29) + "[ 1 ] b ;");
    }

    /** "'{' that are no first tokens of these". */
    private static void braces() {
        part("var a = $ b # { } ;", EXPR, 1);
        part("var a = $ b # { c } ;", EXPR, 1);
        part("var a = b { $ # - c } ;", EXPR, 2);
        part("var a = $ b { # { } } ;", EXPR, 2);
        part("var a = $ b { c : # { } } ;", EXPR, 2);
        part("var a $ struct # { } ;", TYPE, 2);
        part("var a $ interface # { } ;", TYPE, 2);
        part("func f ( ) { $ # { } } ;", STMT, 2);
        part("func f ( ) { $ if a # { } } ;", STMT, 2);
        part("func f ( ) { $ for # { } } ;", STMT, 2);
        part("func f ( ) { $ for ; ; # { } } ;", STMT, 2);
        part("func f ( ) { $ for range a # { } } ;", STMT, 2);
        part("func f ( ) { $ switch # { } } ;", STMT, 2);
        part("func f ( ) { $ switch a # { case b : } } ;", STMT, 2);
        part("func f ( ) { $ select # { } } ;", STMT, 2);
        part("func ( a ) f ( ) { $ # { } } ;", STMT, 2);
        part("func f ( ) { switch { case a : $ # { } } } ;", STMT, 3);
        part("func f ( ) { select { default : $ # { } } } ;", STMT, 3);
        well("func f ( ) { " + STMT.repeat(28) + "if a { } ; { } ; for { } ; switch { } } ;");
    }

    /** "Unary signs, until their Unary ends". */
    private static void unarySigns() {
        for (String sign : "+ - ! ^ * & <-".split(" ")) {
            part("var a = $ # " + sign + " b ;", EXPR, 1);
            part("var a = $ # " + sign + " b ;", sign + " ", 1);
            // Inside the Unary, and behind it.
            part("var a = " + sign + " b ( $ # - c ) ;", EXPR, 3);
            part("var a = " + sign + " b * ( $ # - c ) ;", EXPR, 2);
            part("var a = ( " + sign + " b ) ( $ # - c ) ;", EXPR, 2);
        }
        part("var a = - b . c [ $ # - d ] ;", EXPR, 3);
        part("var a = - b + $ # - c ;", EXPR, 1);
        part("var a = - b , $ # - c ;", EXPR, 1);
        part("var a = - b { $ # - c } ;", EXPR, 3);
        part("func f ( ) { - b <- $ # - c } ;", EXPR, 2);
        part("func f ( ) { - b = $ # - c } ;", EXPR, 2);
        // A Binary sign opens none.
        well("var a = " + EXPR.repeat(30) + "a - b * c & d ;");
        well("var a = " + (EXPR.repeat(30) + "a - ").repeat(5) + "b ;");
    }

    /**
     * "else .. until that ends". It can't be the 31st part itself, since the '{' of the Block before it lies as deep:
     * but what is in it lies one deeper.
     */
    private static void elses() {
        part("func f ( ) { $ if a { } else # { } } ;", STMT, 3);
        part("func f ( ) { $ if a { } else if b # { } } ;", STMT, 3);
        part("func f ( ) { $ if a { } else if b { } else # { } } ;", STMT, 4);
        part("func f ( ) { if a { } else { $ # { } } } ;", STMT, 4);
        part("func f ( ) { if a { } else { } ; $ # { } } ;", STMT, 2);
        part("func f ( ) { if a { } else if b { } ; $ # { } } ;", STMT, 2);
        part("func f ( ) { if a { if b { } else { } ; $ # { } } } ;", STMT, 3);
        part("func f ( ) { if a { } else if $ # - b { } } ;", EXPR, 3);
        // Each else lies in those before it: 28 of them, with the function's Block and the last one.
        well("func f ( ) { " + "if a { } else ".repeat(28) + "{ } } ;");
        error("func f ( ) { " + "if a { } else ".repeat(28) + "if a { } else # { } } ;");
        error("func f ( ) { " + "if a { } else ".repeat(28) + "if a { } else if a # { } } ;");
        error("func f ( ) { " + "if a { } else ".repeat(29) + "# { } } ;");
        well("func f ( ) { " + "if a { } else { } ; ".repeat(100) + "} ;");
    }

    /** "and the : of a NAME : Stmt, until that ends". */
    private static void labels() {
        part("func f ( ) { $ a # : } ;", STMT, 2);
        part("func f ( ) { $ a # : b } ;", STMT, 2);
        part("func f ( ) { $ a # : ; b } ;", STMT, 2);
        part("func f ( ) { a : b ; $ # { } } ;", STMT, 2);
        part("func f ( ) { a : ; $ # { } } ;", STMT, 2);
        part("func f ( ) { a : { } ; $ # { } } ;", STMT, 2);
        part("func f ( ) { a : $ # { } } ;", STMT, 3);
        part("func f ( ) { { a : b } ; $ # { } } ;", STMT, 2);
        part("func f ( ) { switch { case a : b : case c : $ # { } } } ;", STMT, 3);
        well("func f ( ) { " + "a : ; ".repeat(100) + "} ;");
        well("func f ( ) { " + "a : ".repeat(29) + "} ;");
        error("func f ( ) { " + "a : ".repeat(29) + "a # : } ;");
    }

    /** All other tokens open none: at 30 parts they may stand, and those behind them. */
    private static void nothingElse() {
        String stmts = "func f ( ) { " + STMT.repeat(29);
        String[] simple = {"a", "a . b", "a + b", "a , b = c , d", "a , b := c", "a ++", "a <- b", "a &^= b", "go a",
            "defer a", "return", "return a , b", "break", "break a", "continue a", "fallthrough", "const a = 1",
            "type a b", "var a , b c"};
        for (String text : simple) {
            well(stmts + text + " } ;");
        }
        String deep = "func f ( ) { " + STMT.repeat(28);
        String[] heads = {"if a ; b { c }", "for a := b ; c ; d ++ { e }", "for a , b := range c { d }",
            "switch a ; b { case c , d : e ; f default : g }", "select { case a := b : c default : d }"};
        for (String text : heads) {
            well(deep + text + " } ;");
        }
        String exprs = "var a = " + EXPR.repeat(29);
        String[] colons = {"b [ c : d ]", "b [ : ]", "b { c : d , e : f }", "b ( c , d ... )", "b . ( c )"};
        for (String text : colons) {
            well(exprs + text + " ;");
        }
    }
}
