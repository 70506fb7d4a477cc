/**
 * Promise 4: each rule of the grammar with the nodes that it makes. A row is a text and the nodes that are due,
 * what:token[children], the tokens counted from the text's first one.
 */
public final class GrammarTest {
    private static final Check CHECK = new Check();

    private static final String[] DECLS = {
        "const a",
            "6:0[9:1[12:1[5:1]]]",
        "const a , b = 1 , c",
            "6:0[9:1[12:1[5:1 5:3] 13:5[88:5 5:7]]]",
        "const a b = 1.0",
            "6:0[9:1[12:1[5:1] 5:2 13:4[88:4]]]",
        "const ( )",
            "6:0",
        "const ( a = 'c' ; b , c )",
            "6:0[9:2[12:2[5:2] 13:4[88:4]] 9:6[12:6[5:6 5:8]]]",
        "type a b",
            "7:0[10:1[5:1 5:2]]",
        "type ( a b ; c ( d ) ; )",
            "7:0[10:2[5:2 5:3] 10:5[5:5 5:7]]",
        "var a b",
            "8:0[11:1[12:1[5:1] 5:2]]",
        "var a = b",
            "8:0[11:1[12:1[5:1] 13:3[5:3]]]",
        "var a , b c = \"s\" , d",
            "8:0[11:1[12:1[5:1 5:3] 5:4 13:6[88:6 5:8]]]",
        "var ( a b ; c = d )",
            "8:0[11:2[12:2[5:2] 5:3] 11:5[12:5[5:5] 13:7[5:7]]]",
        "func a ( ) { }",
            "2:0[5:1 14:2[15:2] 40:4]",
        "func a ( b ) c { }",
            "2:0[5:1 14:2[15:2[16:3[5:3]] 5:5] 40:6]",
        "func ( a ) b ( ) { }",
            "3:0[4:1[5:2] 5:4 14:5[15:5] 40:7]",
        "func ( a * b ) c ( ) { }",
            "3:0[4:1[5:2 26:3[5:4]] 5:6 14:7[15:7] 40:9]",
    };

    private static final String[] PARAMS = {
        "func f ( a , b ) { }",
            "2:0[5:1 14:2[15:2[16:3[5:3] 16:5[5:5]]] 40:7]",
        "func f ( a , b c , d e , ) { }",
            "2:0[5:1 14:2[15:2[16:3[5:3] 16:5[5:5 5:6] 16:8[5:8 5:9]]] 40:12]",
        "func f ( a b , c , d e ) { }",
            "2:0[5:1 14:2[15:2[16:3[5:3 5:4] 16:6[5:6] 16:8[5:8 5:9]]] 40:11]",
        "func f ( [ ] a , b ) ( c , ... d ) { }",
            "2:0[5:1 14:2[15:2[16:3[20:3[5:5]] 16:7[5:7]] 15:9[16:10[5:10] 16:12[17:12 5:13]]] 40:15]",
        "func f ( a b , c ... d , ) ( e ) { }",
            "2:0[5:1 14:2[15:2[16:3[5:3 5:4] 16:6[5:6 17:7 5:8]] 15:11[16:12[5:12]]] 40:14]",
        "func f ( ... a ) * b { }",
            "2:0[5:1 14:2[15:2[16:3[17:3 5:4]] 26:6[5:7]] 40:8]",
        "func f ( a ( b ) ) { }",
            "2:0[5:1 14:2[15:2[16:3[5:3 5:5]]] 40:8]",
    };

    private static final String[] TYPES = {
        "type t [ ] a",
            "7:0[10:1[5:1 20:2[5:4]]]",
        "type t [ 1 + 2 ] a",
            "7:0[10:1[5:1 21:2[80:4[88:3 88:5] 5:7]]]",
        "type t map [ a ] b",
            "7:0[10:1[5:1 22:2[5:4 5:6]]]",
        "type t chan a",
            "7:0[10:1[5:1 23:2[5:3]]]",
        "type t chan <- a",
            "7:0[10:1[5:1 24:2[5:4]]]",
        "type t <- chan a",
            "7:0[10:1[5:1 25:2[5:4]]]",
        "type t chan <- chan a",
            "7:0[10:1[5:1 24:2[23:4[5:5]]]]",
        "type t chan ( <- chan a )",
            "7:0[10:1[5:1 23:2[25:4[5:6]]]]",
        "type t <- chan <- chan a",
            "7:0[10:1[5:1 25:2[25:4[5:6]]]]",
        "type t * * a",
            "7:0[10:1[5:1 26:2[26:3[5:4]]]]",
        "type t ( ( a ) )",
            "7:0[10:1[5:1 5:4]]",
        "type t ( * a )",
            "7:0[10:1[5:1 26:3[5:4]]]",
        "type t struct { }",
            "7:0[10:1[5:1 27:2]]",
        "type t struct { a , b c ; d [ ] e }",
            "7:0[10:1[5:1 27:2[28:4[12:4[5:4 5:6] 5:7] 28:9[12:9[5:9] 20:10[5:12]]]]]",
        "type t func ( )",
            "7:0[10:1[5:1 29:2[14:3[15:3]]]]",
        "type t func ( a ) func ( ) b",
            "7:0[10:1[5:1 29:2[14:3[15:3[16:4[5:4]] 29:6[14:7[15:7 5:9]]]]]]",
        "type t interface { }",
            "7:0[10:1[5:1 30:2]]",
        "type t interface { a ( ) ; b ( c ) d ; }",
            "7:0[10:1[5:1 30:2[31:4[5:4 14:5[15:5]] 31:8[5:8 14:9[15:9[16:10[5:10]] 5:12]]]]]",
    };

    private static final String[] STMTS = {
        "; ; a ; ;",
            "50:2[5:2]",
        "var a b ; const c",
            "8:0[11:1[12:1[5:1] 5:2]] 6:4[9:5[12:5[5:5]]]",
        "a : ; b : c",
            "41:1[5:0] 41:4[5:3 50:5[5:5]]",
        "a : b : c ++",
            "41:1[5:0 41:3[5:2 52:5[5:4]]]",
        "a :",
            "41:1[5:0]",
        "a + b",
            "50:0[80:1[5:0 5:2]]",
        "a <- b",
            "51:1[5:0 5:2]",
        "a . b --",
            "53:3[82:1[5:0 5:2]]",
        "a , b . c = d , e",
            "54:5[13:0[5:0 82:3[5:2 5:4]] 13:6[5:6 5:8]]",
        "a [ 1 ] &^= b",
            "55:4[84:1[5:0 88:2] 5:5]",
        "a , b := c , d",
            "56:3[12:0[5:0 5:2] 13:4[5:4 5:6]]",
        "go a ( ) ; defer b ( )",
            "42:0[87:2[5:1]] 43:5[87:7[5:6]]",
        "return ; return a , b",
            "44:0 44:2[13:3[5:3 5:5]]",
        "break ; break a ; continue ; continue a ; fallthrough",
            "45:0 45:2[5:3] 46:5 46:7[5:8] 47:10",
        "{ } ; { a }",
            "40:0 40:3[50:4[5:4]]",
    };

    private static final String[] HEADS = {
        "if a { }",
            "60:0[5:1 40:2]",
        "if ; a { }",
            "60:0[61:1 5:2 40:3]",
        "if a ; b { }",
            "60:0[61:2[50:1[5:1]] 5:3 40:4]",
        "if a := b ; c { } else { d }",
            "60:0[61:4[56:2[12:1[5:1] 13:3[5:3]]] 5:5 40:6 40:9[50:10[5:10]]]",
        "if a { } else if b { } else { }",
            "60:0[5:1 40:2 60:5[5:6 40:7 40:10]]",
        "for { }",
            "62:0[40:1]",
        "for a { b }",
            "62:0[5:1 40:2[50:3[5:3]]]",
        "for ; ; { }",
            "62:0[63:1 64:2 65:2 40:3]",
        "for a := b ; c ; d ++ { }",
            "62:0[63:4[56:2[12:1[5:1] 13:3[5:3]]] 64:6[5:5] 65:6[52:8[5:7]] 40:9]",
        "for a ; ; b { }",
            "62:0[63:2[50:1[5:1]] 64:3 65:3[50:4[5:4]] 40:5]",
        "for range a { }",
            "62:0[66:1[5:2] 40:3]",
        "for a , b . c = range d { }",
            "62:0[66:7[13:1[5:1 82:4[5:3 5:5]] 5:8] 40:9]",
        "for a , b := range c { }",
            "62:0[66:5[67:4[12:1[5:1 5:3]] 5:6] 40:7]",
    };

    private static final String[] CLAUSES = {
        "switch { }",
            "68:0",
        "switch a { case b , c : d ; e case f : default : }",
            "68:0[5:1 71:3[13:4[5:4 5:6] 40:7[50:8[5:8] 50:10[5:10]]] 71:11[13:12[5:12] 40:13] 72:14[40:15]]",
        "switch ; { default : }",
            "68:0[61:1 72:3[40:4]]",
        "switch a ; { }",
            "68:0[61:2[50:1[5:1]]]",
        "switch a := b ; a { case 1 : ; }",
            "68:0[61:4[56:2[12:1[5:1] 13:3[5:3]]] 5:5 71:7[13:8[88:8] 40:9]]",
        "switch a . b . ( type ) { case c , * d : e ; default : f }",
            "68:0[69:6[82:2[5:1 5:3]] 71:9[70:10[5:10 26:12[5:13]] 40:14[50:15[5:15]]] 72:17[40:18[50:19[5:19]]]]",
        "switch a := b . ( type ) { }",
            "68:0[69:6[12:1[5:1] 5:3]]",
        "switch ; a := b ( ) . ( type ) { case [ ] c : }",
            "68:0[61:1 69:9[12:2[5:2] 87:5[5:4]] 71:12[70:13[20:13[5:15]] 40:16]]",
        "switch a ( ) ; b . ( type ) { case ( c ) : }",
            "68:0[61:4[50:1[87:2[5:1]]] 69:8[5:5] 71:11[70:12[5:13] 40:15]]",
        "select { }",
            "73:0",
        "select { case a <- b : c case <- a : case a , b = <- c : case a := <- b : d : default : e }",
            "73:0[74:2[51:4[5:3 5:5] 40:6[50:7[5:7]]] 74:8[50:9[81:9[5:10]] 40:11] 74:12[54:16[13:13[5:13 "
            + "5:15] 13:17[81:17[5:18]]] 40:19] 74:20[56:22[12:21[5:21] 13:23[81:23[5:24]]] "
            + "40:25[41:27[5:26]]] 75:28[40:29[50:30[5:30]]]]",
        "select { case a : }",
            "73:0[74:2[50:3[5:3] 40:4]]",
    };

    private static final String[] EXPRS = {
        "a || b && c == d + e * f",
            "50:0[80:1[5:0 80:3[5:2 80:5[5:4 80:7[5:6 80:9[5:8 5:10]]]]]]",
        "a * b + c < d && e || f",
            "50:0[80:9[80:7[80:5[80:3[80:1[5:0 5:2] 5:4] 5:6] 5:8] 5:10]]",
        "a - b - c",
            "50:0[80:3[80:1[5:0 5:2] 5:4]]",
        "a << b & c &^ d % e / f >> g",
            "50:0[80:11[80:9[80:7[80:5[80:3[80:1[5:0 5:2] 5:4] 5:6] 5:8] 5:10] 5:12]]",
        "a | b ^ c != d",
            "50:0[80:5[80:3[80:1[5:0 5:2] 5:4] 5:6]]",
        "- a . b + * c",
            "50:0[80:4[81:0[82:2[5:1 5:3]] 81:5[5:6]]]",
        "! ^ & <- a",
            "50:0[81:0[81:1[81:2[81:3[5:4]]]]]",
        "<- chan a ( b )",
            "50:0[87:3[25:0[5:2] 5:4]]",
        "- <- chan a",
            "50:0[81:0[25:1[5:3]]]",
        "a . b . c",
            "50:0[82:3[82:1[5:0 5:2] 5:4]]",
        "a . ( * b ) . c",
            "50:0[82:6[83:1[5:0 26:3[5:4]] 5:7]]",
        "a [ b ] [ c ]",
            "50:0[84:4[84:1[5:0 5:2] 5:5]]",
        "a [ : ]",
            "50:0[85:1[5:0 86:2 86:3]]",
        "a [ b : ]",
            "50:0[85:1[5:0 5:2 86:4]]",
        "a [ : b ]",
            "50:0[85:1[5:0 86:2 5:3]]",
        "a [ b : c ]",
            "50:0[85:1[5:0 5:2 5:4]]",
        "a [ b : c : d ]",
            "50:0[85:1[5:0 5:2 5:4 5:6]]",
        "a [ : c : d ]",
            "50:0[85:1[5:0 86:2 5:3 5:5]]",
        "a ( )",
            "50:0[87:1[5:0]]",
        "a ( b , c , )",
            "50:0[87:1[5:0 5:2 5:4]]",
        "a ( b , c ... )",
            "50:0[87:1[5:0 5:2 5:4 17:5]]",
        "a ( b ... , ) ( )",
            "50:0[87:6[87:1[5:0 5:2 17:3]]]",
        "( a + b ) * c",
            "50:0[80:5[89:0[80:2[5:1 5:3]] 5:6]]",
        "1 + 1.0 + 'c' + \"s\"",
            "50:0[80:5[80:3[80:1[88:0 88:2] 88:4] 88:6]]",
        "func ( ) { a } ( )",
            "50:0[87:6[90:0[14:1[15:1] 40:3[50:4[5:4]]]]]",
        "func ( ) ( a ) ( b )",
            "50:0[87:6[29:0[14:1[15:1 15:3[16:4[5:4]]]] 5:7]]",
        "func ( ) <- a",
            "51:3[29:0[14:1[15:1]] 5:4]",
        "[ ] a ( b )",
            "50:0[87:3[20:0[5:2] 5:4]]",
        "[ 1 ] a . b",
            "50:0[82:4[21:0[88:1 5:3] 5:5]]",
        "map [ a ] b ( c )",
            "50:0[87:5[22:0[5:2 5:4] 5:6]]",
        "chan a ( b ) <- c",
            "51:5[87:2[23:0[5:1] 5:3] 5:6]",
        "interface { } ( a )",
            "50:0[87:3[30:0 5:4]]",
        "struct { } . a",
            "50:0[82:3[27:0 5:4]]",
        "( * a ) ( b )",
            "50:0[87:4[89:0[81:1[5:2]] 5:5]]",
    };

    private static final String[] LITERALS = {
        "a { }",
            "50:0[91:1[5:0]]",
        "a { b , c : d , }",
            "50:0[91:1[5:0 92:2[5:2] 92:4[5:4 5:6]]]",
        "a { { } : { b } , { c : { } } }",
            "50:0[91:1[5:0 92:2[93:2 93:5[92:6[5:6]]] 92:9[93:9[92:10[5:10 93:12]]]]]",
        "[ ] a { { b } }",
            "50:0[91:3[20:0[5:2] 92:4[93:4[92:5[5:5]]]]]",
        "[ 1 ] a { }",
            "50:0[91:4[21:0[88:1 5:3]]]",
        "[ ... ] a { b } [ 0 ]",
            "50:0[84:7[91:4[21:0[17:1 5:3] 92:5[5:5]] 88:8]]",
        "map [ a ] b { c : d }",
            "50:0[91:5[22:0[5:2 5:4] 92:6[5:6 5:8]]]",
        "struct { a b } { c }",
            "50:0[91:5[27:0[28:2[12:2[5:2] 5:3]] 92:6[5:6]]]",
        "[ ] func ( ) { a }",
            "50:0[91:5[20:0[29:2[14:3[15:3]]] 92:6[5:6]]]",
        "a { } . b ( )",
            "50:0[87:5[82:3[91:1[5:0] 5:4]]]",
    };

    private static final String[] LITERALS_IN_HEADS = {
        "if a == b { }",
            "60:0[80:2[5:1 5:3] 40:4]",
        "if a == ( b { } ) { }",
            "60:0[80:2[5:1 89:3[91:5[5:4]]] 40:8]",
        "if a [ b { } . c ] { }",
            "60:0[84:2[5:1 82:6[91:4[5:3] 5:7]] 40:9]",
        "if a ( b { } ) { }",
            "60:0[87:2[5:1 91:4[5:3]] 40:7]",
        "if [ ] a { b { } } == c { }",
            "60:0[80:9[91:4[20:1[5:3] 92:5[91:6[5:5]]] 5:10] 40:11]",
        "if func ( ) { } == a { }",
            "60:0[80:6[90:1[14:2[15:2] 40:4] 5:7] 40:8]",
        "if struct { } { } == a { }",
            "60:0[80:6[91:4[27:1] 5:7] 40:8]",
        "if chan a { }",
            "60:0[23:1[5:2] 40:3]",
        "if interface { } { }",
            "60:0[30:1 40:4]",
        "if func ( ) { var ( a = b { } ) } { }",
            "60:0[90:1[14:2[15:2] 40:4[8:5[11:7[12:7[5:7] 13:9[91:10[5:9]]]]]] 40:14]",
        "if func ( ) { a ( b { } ) } { }",
            "60:0[90:1[14:2[15:2] 40:4[50:5[87:6[5:5 91:8[5:7]]]]] 40:12]",
        "if ( func ( ) { if a { b { } } } ) { }",
            "60:0[89:1[90:2[14:3[15:3] 40:5[60:6[5:7 40:8[50:9[91:10[5:9]]]]]]] 40:15]",
        "switch map [ a ] b { } { }",
            "68:0[91:6[22:1[5:3 5:5]]]",
    };

    public static void main(String[] args) {
        String[][] tops = {DECLS, PARAMS, TYPES};
        for (String[] rows : tops) {
            for (int i = 0; i < rows.length; i += 2) {
                top(rows[i], rows[i + 1]);
            }
        }
        String[][] stmts = {STMTS, HEADS, CLAUSES, EXPRS, LITERALS, LITERALS_IN_HEADS};
        for (String[] rows : stmts) {
            for (int i = 0; i < rows.length; i += 2) {
                stmts(rows[i], rows[i + 1]);
            }
        }
        files();
        longPrograms();
        CHECK.end();
    }

    /** The text is all that stands behind package p ; in the File. */
    private static void top(String text, String want) {
        TreeBuilder x = new TreeBuilder();
        int nodes = Source.build(x, "package p ; " + text + " ;");
        CHECK.due(text, nodes < 0 ? "error " + nodes : Source.dump(x, x.child(0, 1), 3), want);
    }

    /** The text is all that stands in the Block of a function, which is node 6. */
    private static void stmts(String text, String want) {
        TreeBuilder x = new TreeBuilder();
        int nodes = Source.build(x, Source.IN_FUNCTION + text + " } ;");
        CHECK.due(text, nodes < 0 ? "error " + nodes : Source.dumpChildren(x, 6, 8), want);
    }

    private static void files() {
        TreeBuilder x = new TreeBuilder();
        CHECK.due("File", Source.build(x, "package p ;"), 2);
        CHECK.due("File", Source.dump(x, 0, 0), "1:0[5:1]");
        CHECK.due("File", Source.build(x, "package p ; type a b ; func f ( ) { } ; const c ;"), 15);
        CHECK.due("File", Source.dump(x, 0, 0),
                "1:0[5:1 7:3[10:4[5:4 5:5]] 2:7[5:8 14:9[15:9] 40:11] 6:14[9:15[12:15[5:15]]]]");
    }

    /** Long chains and lists, up to the 16384 tokens: trees that are far deeper than parts may be. */
    private static void longPrograms() {
        longExpr("a", " + a", 8000);
        longExpr("a", " . a", 8000);
        longExpr("a", " ( )", 8000);
        // Eight nodes in five tokens.
        StringBuilder text = new StringBuilder("package p ; func f ( ) { switch { ");
        for (int i = 0; i < 3270; i++) {
            text.append("case a : const a ");
        }
        TreeBuilder x = new TreeBuilder();
        CHECK.due("many clauses", Source.build(x, text + "} } ;"), 8 + 8 * 3270);
        CHECK.due("many clauses: the last", x.child(7, 3269), 8 + 8 * 3269);
        CHECK.noChild(x, 7, 3270);
        CHECK.due("then a short one", Source.build(x, "package p ;"), 2);
        CHECK.due("then a short one", Source.dump(x, 0, 0), "1:0[5:1]");
    }

    private static void longExpr(String first, String more, int count) {
        TreeBuilder x = new TreeBuilder();
        int nodes = Source.build(x, "package p ; var a = " + first + more.repeat(count) + " ;");
        int each = more.contains("a") ? 2 : 1;
        CHECK.due("a" + more + " ..", nodes, 8 + each * count);
        // The last sign is the outermost node: the parents of the first operand are all the signs.
        int steps = 0;
        int k = 7 + count;
        for (int at = k; at >= 0; at = x.node(at, 4)) {
            steps++;
        }
        CHECK.due("a" + more + " ..: parents of the first", steps, count + 5);
        CHECK.due("a" + more + " ..: the first", x.node(k, 1), 6);
        CHECK.due("a" + more + " ..: the outermost", x.node(7, 2), each * count + 1);
    }
}
