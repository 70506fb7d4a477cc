/** The GRAMMAR, sentence by sentence: the expressions, and what a '{' begins in a head. */
public final class ExprSentencesTest {
    private static final Check CHECK = new Check();
    private static final Sentences HOLD = new Sentences(CHECK);
    /** From those that bind least. */
    private static final String[] BINARIES = {"||", "&&", "== != < <= > >=", "+ - | ^", "* / % << >> & &^"};
    private static final String[] UNARIES = "+ - ! ^ * & <-".split(" ");

    public static void main(String[] args) {
        binaries();
        unaries();
        selectors();
        indexes();
        calls();
        operands();
        typesAsOperands();
        literals();
        elements();
        heads();
        bracketsInHeads();
        typesInHeads();
        CHECK.end();
    }

    private static void binaries() {
        HOLD.stmts("Expr: Unary {Binary Unary}",
                "a => 50:0[5:0]", "a + b => 50:0[80:1[5:0 5:2]]", "- a + - b => 50:0[80:2[81:0[5:1] 81:3[5:4]]]",
                "a + # ;", "# / a", "a # b", "a + # / b", "a # ! b", "a # ~ b", "a + # )", "a == # = b",
                "a = b # <- c");
        for (int low = 0; low < BINARIES.length; low++) {
            for (int high = low; high < BINARIES.length; high++) {
                for (String first : BINARIES[low].split(" ")) {
                    for (String second : BINARIES[high].split(" ")) {
                        bindings(first, second, low == high);
                    }
                }
            }
        }
    }

    /** The second sign binds tighter than the first, or both bind the same. */
    private static void bindings(String first, String second, boolean same) {
        String words = first + " and " + second + (same ? " bind the same, from the left" : ": the first binds less");
        String fromLeft = "50:0[80:3[80:1[5:0 5:2] 5:4]]";
        String fromRight = "50:0[80:1[5:0 80:3[5:2 5:4]]]";
        HOLD.stmts(words,
                "a " + first + " b " + second + " c => " + (same ? fromLeft : fromRight),
                "a " + second + " b " + first + " c => " + fromLeft,
                "a " + first + " b " + second + " # ;", "a " + first + " # || b");
    }

    private static void unaries() {
        for (String sign : UNARIES) {
            HOLD.stmts("Unary: + - ! ^ * & <- before a Unary [81, the sign]: " + sign,
                    "$ a => 50:0[81:0[5:1]]".replace("$", sign), "$ $ a => 50:0[81:0[81:1[5:2]]]".replace("$", sign),
                    "$ - a => 50:0[81:0[81:1[5:2]]]".replace("$", sign),
                    "$ a . b => 50:0[81:0[82:2[5:1 5:3]]]".replace("$", sign),
                    "$ a * b => 50:0[80:2[81:0[5:1] 5:3]]".replace("$", sign),
                    "a / $ b => 50:0[80:1[5:0 81:2[5:3]]]".replace("$", sign),
                    "$ # ;".replace("$", sign), "$ # )".replace("$", sign), "$ # / a".replace("$", sign));
        }
        HOLD.stmts("no other sign stands before a Unary",
                "! a => 50:0[81:0[5:1]]", "# ~ a", "# / a", "# % a", "# | a", "# &^ a", "# << a", "# && a", "# ++ a",
                "# -- a", "# == a", "# ... a", "# := a", "- # ~ a", "- # ++ a");
        HOLD.stmts("but <- before chan begins a Type",
                "<- chan a => 50:0[25:0[5:2]]", "<- a => 50:0[81:0[5:1]]", "- <- chan a => 50:0[81:0[25:1[5:3]]]",
                "<- <- chan a => 50:0[81:0[25:1[5:3]]]", "<- ( chan a ) => 50:0[81:0[89:1[23:2[5:3]]]]",
                "<- chan a ( b ) => 50:0[87:3[25:0[5:2] 5:4]]", "<- chan <- chan a => 50:0[25:0[25:2[5:4]]]",
                "- chan a => 50:0[81:0[23:1[5:2]]]",
                "<- chan # ;", "<- chan # 1", "<- chan # - a", "<- # ;");
    }

    private static void selectors() {
        HOLD.stmts(". NAME [82, . : the former, Name]",
                "a . b => 50:0[82:1[5:0 5:2]]", "a . b . c => 50:0[82:3[82:1[5:0 5:2] 5:4]]",
                "1 . b => 50:0[82:1[88:0 5:2]]", "a . # ;", "a . # 1", "a . # . b", "a . # type", "a . # [ b ]",
                "# . a", "a . # { }", "a . b # c");
        HOLD.stmts(". '(' Type ')' [83, .]",
                "a . ( b ) => 50:0[83:1[5:0 5:3]]", "a . ( * b ) . c => 50:0[82:6[83:1[5:0 26:3[5:4]] 5:7]]",
                "a . ( [ ] b ) ( ) => 50:0[87:7[83:1[5:0 20:3[5:5]]]]",
                "a . ( # )", "a . ( # 1 )", "a . ( b # , c )", "a . ( b # . c )", "a . ( b # + c )", "a . ( # type )",
                "a . ( b # ; )", "a . ( # - b )", "a . ( b #");
    }

    private static void indexes() {
        HOLD.stmts("'[' Expr ']' [84, '[' ]",
                "a [ b ] => 50:0[84:1[5:0 5:2]]", "a [ b + c ] [ d ] => 50:0[84:6[84:1[5:0 80:3[5:2 5:4]] 5:7]]",
                "a [ # ]", "a [ b # , c ]", "a [ b # ; ]", "a [ b # ) ]", "a [ # , ]", "a [ b # ... ]", "a [ b # = c ]",
                "a [ b #");
        HOLD.stmts("'[' [Expr] : [Expr] ']' [85, '[' : the former, then three children: the Expr, or a 86 "
                + "(the token behind) for none; the third only if there is a second : ]",
                "a [ : ] => 50:0[85:1[5:0 86:2 86:3]]", "a [ b : ] => 50:0[85:1[5:0 5:2 86:4]]",
                "a [ : b ] => 50:0[85:1[5:0 86:2 5:3]]", "a [ b : c ] => 50:0[85:1[5:0 5:2 5:4]]",
                "a [ b + c : ] [ : ] => 50:0[85:7[85:1[5:0 80:3[5:2 5:4] 86:6] 86:8 86:9]]",
                "a [ b : c # , d ]", "a [ : # , ]", "a [ : # ; ]", "a [ b : # ) ]", "a [ b : #");
        HOLD.stmts("'[' [Expr] : Expr : Expr ']'",
                "a [ b : c : d ] => 50:0[85:1[5:0 5:2 5:4 5:6]]", "a [ : b : c ] => 50:0[85:1[5:0 86:2 5:3 5:5]]",
                "a [ : # : ]", "a [ b : # : c ]", "a [ b : c : # ]", "a [ : b : # ]", "a [ b : c : d # : e ]",
                "a [ b : c : # : ]", "a [ : # : b ]");
    }

    private static void calls() {
        HOLD.stmts("'(' [Expr {, Expr} [...] [,]] ')' [87, '(' : the former, the Exprs, a 17 for ...]",
                "a ( ) => 50:0[87:1[5:0]]", "a ( b ) => 50:0[87:1[5:0 5:2]]", "a ( b , ) => 50:0[87:1[5:0 5:2]]",
                "a ( b , c ) => 50:0[87:1[5:0 5:2 5:4]]", "a ( b , c , ) => 50:0[87:1[5:0 5:2 5:4]]",
                "a ( b ... ) => 50:0[87:1[5:0 5:2 17:3]]", "a ( b , c ... , ) => 50:0[87:1[5:0 5:2 5:4 17:5]]",
                "a ( ) ( b ) => 50:0[87:3[87:1[5:0] 5:4]]",
                "a ( # , )", "a ( b , # , )", "a ( # ... )", "a ( b , # ... )", "a ( b ... # ... )",
                "a ( b ... , # , )",
                "a ( b ... , # c )", "a ( b ... # c )", "a ( b # ; )", "a ( b # : c )", "a ( b # = c )", "a ( b # c )",
                "a ( #", "a ( b #", "a ( b , #", "a ( b ... #");
    }

    private static void operands() {
        HOLD.stmts("Operand: INT, FLOAT, RUNE, STRING [88] | NAME [5]",
                "1 => 50:0[88:0]", "1.0 => 50:0[88:0]", "'c' => 50:0[88:0]", "\"s\" => 50:0[88:0]", "a => 50:0[5:0]",
                "1 + 1.0 => 50:0[80:1[88:0 88:2]]", "'c' + \"s\" => 50:0[80:1[88:0 88:2]]",
                "a = # ;", "a = # type", "a = # range b", "a = # if b", "a = # const", "a = # goto", "1 # 1.0",
                "1 # { }", "\"s\" # { }");
        HOLD.stmts("'(' Expr ')' [89, '(' ]",
                "( a ) => 50:0[89:0[5:1]]", "( ( a + b ) ) => 50:0[89:0[89:1[80:3[5:2 5:4]]]]",
                "( [ ] a ) => 50:0[89:0[20:1[5:3]]]", "( a ) ( b ) => 50:0[87:3[89:0[5:1] 5:4]]",
                "( # )", "( a # , b )", "( a # ; )", "( a # = b )", "( a # ... )", "( a # ]", "( a #", "( a ) # { }",
                "( [ ] a ) # { }");
        HOLD.stmts("func Signature Block [90, func]",
                "func ( ) { } => 50:0[90:0[14:1[15:1] 40:3]]",
                "func ( a ) b { c } ( ) => 50:0[87:8[90:0[14:1[15:1[16:2[5:2]] 5:4] 40:5[50:6[5:6]]]]]",
                "func ( ) ( ) { } . a => 50:0[82:7[90:0[14:1[15:1 15:3] 40:5] 5:8]]",
                "func # ;", "func # { }", "func # f ( ) { }", "func ( ) { # ) }", "func ( ) { } # { }",
                "func ( ) { } # a",
                "func ( ) { #");
    }

    private static void typesAsOperands() {
        HOLD.stmts("a Type that begins with [ map chan <- struct func (without Block) or interface",
                "[ ] a => 50:0[20:0[5:2]]", "[ 1 ] a => 50:0[21:0[88:1 5:3]]", "map [ a ] b => 50:0[22:0[5:2 5:4]]",
                "chan a => 50:0[23:0[5:1]]", "chan <- a => 50:0[24:0[5:2]]", "<- chan a => 50:0[25:0[5:2]]",
                "struct { } => 50:0[27:0]", "func ( ) => 50:0[29:0[14:1[15:1]]]", "interface { } => 50:0[30:0]",
                "[ ] a ( b ) => 50:0[87:3[20:0[5:2] 5:4]]", "chan a . b => 50:0[82:2[23:0[5:1] 5:3]]",
                "interface { } [ a ] => 50:0[84:3[30:0 5:4]]", "map [ a ] b + c => 50:0[80:5[22:0[5:2 5:4] 5:6]]",
                "( * a ) => 50:0[89:0[81:1[5:2]]]",
                "[ ] # ;", "[ 1 ] # ;", "map # a", "chan # ;", "<- chan # ;", "struct # ;", "interface # ;", "func # ;",
                "chan a # { }", "chan <- a # { }", "<- chan a # { }", "interface { } # { }", "( * a # , )",
                "[ ] a # b", "chan a # b");
    }

    private static void literals() {
        HOLD.stmts("Literal [91, '{' ]: a Name, or a Type 20, 21, 22 or 27, then '{' .. '}'",
                "a { } => 50:0[91:1[5:0]]", "[ ] a { } => 50:0[91:3[20:0[5:2]]]",
                "[ 1 ] a { } => 50:0[91:4[21:0[88:1 5:3]]]",
                "map [ a ] b { } => 50:0[91:5[22:0[5:2 5:4]]]", "struct { } { } => 50:0[91:3[27:0]]",
                "[ ] [ ] a { } => 50:0[91:5[20:0[20:2[5:4]]]]",
                "[ ] func ( ) { } => 50:0[91:5[20:0[29:2[14:3[15:3]]]]]",
                "[ ] chan a { } => 50:0[91:4[20:0[23:2[5:3]]]]", "[ ] ( a ) { } => 50:0[91:5[20:0[5:3]]]",
                "a { } . b => 50:0[82:3[91:1[5:0] 5:4]]", "& a { } => 50:0[81:0[91:2[5:1]]]",
                "a . b # { }", "a ( ) # { }", "a [ b ] # { }", "a { } # { }", "1 # { }", "( a ) # { }", "chan a # { }",
                "chan [ ] a # { }", "interface { } # { }", "- 1 # { }", "[ ] a { } # { }", "a { # ; }", "a { #");
        HOLD.stmts("(or '[' ... ']' Type [21 with a child 17 in the place of the Expr])",
                "[ ... ] a { } => 50:0[91:4[21:0[17:1 5:3]]]",
                "[ ... ] [ ] a { b } => 50:0[91:6[21:0[17:1 20:3[5:5]] 92:7[5:7]]]",
                "[ ... ] a { } [ b ] => 50:0[84:6[91:4[21:0[17:1 5:3]] 5:7]]",
                "[ ... # a", "[ ... ] # { }", "[ ... ] a # ;", "[ ... ] a # ( b )", "[ ... ] a # . b",
                "[ ... ] a # + b",
                "[ ] [ # ... ] a { }", "[ ... ] [ # ... ] a { }", "( [ ... ] a # )", "[ ... # ... ]",
                "a [ # ... ]", "var a [ # ... ] b", "[ ... ] a #", "a . ( [ # ... ] b )", "map [ [ # ... ] a ] b { }");
    }

    private static void elements() {
        HOLD.stmts("'{' [Element {, Element} [,]] '}'",
                "a { } => 50:0[91:1[5:0]]", "a { b } => 50:0[91:1[5:0 92:2[5:2]]]",
                "a { b , } => 50:0[91:1[5:0 92:2[5:2]]]",
                "a { b , c } => 50:0[91:1[5:0 92:2[5:2] 92:4[5:4]]]",
                "a { b , c , } => 50:0[91:1[5:0 92:2[5:2] 92:4[5:4]]]",
                "a { # , }", "a { b , # , }", "a { b # ; }", "a { # ; }", "a { b # c }", "a { b # ... }", "a { b # )",
                "a { b #",
                "a { b , #");
        HOLD.stmts("Element: [Value :] Value [92, its first token: one or two]",
                "a { b : c } => 50:0[91:1[5:0 92:2[5:2 5:4]]]",
                "a { - b : c , d } => 50:0[91:1[5:0 92:2[81:2[5:3] 5:5] 92:7[5:7]]]",
                "a { b + c } => 50:0[91:1[5:0 92:2[80:3[5:2 5:4]]]]",
                "a { # : b }", "a { b : # }", "a { b : # , }", "a { b : c # : d }", "a { b # = c }", "a { b # := c }",
                "a { b : #");
        HOLD.stmts("Value: Expr | '{' .. '}' as in a Literal [93, '{' ]",
                "a { { } } => 50:0[91:1[5:0 92:2[93:2]]]", "a { { b } , } => 50:0[91:1[5:0 92:2[93:2[92:3[5:3]]]]]",
                "a { { b , } : { c : d } } => 50:0[91:1[5:0 92:2[93:2[92:3[5:3]] 93:7[92:8[5:8 5:10]]]]]",
                "a { { { } } } => 50:0[91:1[5:0 92:2[93:2[92:3[93:3]]]]]",
                "a { b { } } => 50:0[91:1[5:0 92:2[91:3[5:2]]]]",
                "a { { # , } }", "a { { } # { } }", "a { { } # . b }", "a { { } # ( ) }", "a { { } # + b }",
                "a { - # { } }",
                "a { { b # ; } }", "a { b : { # ; } }", "a = # { }", "a ( # { } )", "a [ # { } ]", "a { { #");
    }

    private static void heads() {
        HOLD.stmts("In the heads of If, For and Switch (up to their Block or '{' ) a Name and '{' make no Literal",
                "if a { } => 60:0[5:1 40:2]", "if b ; a { } => 60:0[61:2[50:1[5:1]] 5:3 40:4]",
                "if - a { } => 60:0[81:1[5:2] 40:3]", "if a + b { } => 60:0[80:2[5:1 5:3] 40:4]",
                "for a { } => 62:0[5:1 40:2]", "for ; ; a { } => 62:0[63:1 64:2 65:2[50:3[5:3]] 40:4]",
                "for ; ; a = b { } => 62:0[63:1 64:2 65:2[54:4[13:3[5:3] 13:5[5:5]]] 40:6]",
                "for range a { } => 62:0[66:1[5:2] 40:3]",
                "for a := range b { } => 62:0[66:3[67:2[12:1[5:1]] 5:4] 40:5]",
                "switch a { } => 68:0[5:1]", "switch ; a { } => 68:0[61:1 5:2]",
                "if a { b { } } => 60:0[5:1 40:2[50:3[91:4[5:3]]]]",
                "if a { } else { b { } } => 60:0[5:1 40:2 40:5[50:6[91:7[5:6]]]]",
                "for a { b { } } => 62:0[5:1 40:2[50:3[91:4[5:3]]]]", "for { a { } } => 62:0[40:1[50:2[91:3[5:2]]]]",
                "switch a { case b { } : c { } } => 68:0[5:1 71:3[13:4[91:5[5:4]] 40:7[50:8[91:9[5:8]]]]]",
                "select { case a { } : b { } } => 73:0[74:2[50:3[91:4[5:3]] 40:6[50:7[91:8[5:7]]]]]",
                "if a { } ; b { } => 60:0[5:1 40:2] 50:5[91:6[5:5]]",
                "if a { } # . b { }", "if a { } # { }", "if a == b { } # == c { }", "if a = b # { } ; c { }",
                "if a := b # { } ; c { }", "if a ; b { } # { }", "if a { } ; c { } # { }",
                "for a := b # { } ; ; { }", "for a { } # { }", "for ; a # { } ; { }", "for ; ; a { } # { }",
                "for range a { } # { }", "switch a { # b }", "switch a := b # { } { }", "switch a { } # { }",
                "switch a := b # { } . ( type ) { }", "switch ; a := b # { } . ( type ) { }",
                "if a , b = c # { } ; d { }");
    }

    private static void bracketsInHeads() {
        HOLD.stmts("but not inside ( ) [ ] or the { } of a Literal there",
                "if ( a { } ) { } => 60:0[89:1[91:3[5:2]] 40:6]",
                "if a ( b { } ) { } => 60:0[87:2[5:1 91:4[5:3]] 40:7]",
                "if a [ b { } ] { } => 60:0[84:2[5:1 91:4[5:3]] 40:7]",
                "if a [ : b { } ] { } => 60:0[85:2[5:1 86:3 91:5[5:4]] 40:8]",
                "if [ ] a { b { } } { } => 60:0[91:4[20:1[5:3] 92:5[91:6[5:5]]] 40:9]",
                "if [ ] a { { b { } } } { } => 60:0[91:4[20:1[5:3] 92:5[93:5[92:6[91:7[5:6]]]]] 40:11]",
                "if [ a { } ] b { } { } => 60:0[91:7[21:1[91:3[5:2] 5:6]] 40:9]",
                "for ( a { } ) { } => 62:0[89:1[91:3[5:2]] 40:6]",
                "for a := ( b { } ) ; ; { } => 62:0[63:8[56:2[12:1[5:1] 13:3[89:3[91:5[5:4]]]]] 64:9 65:9 40:10]",
                "for range a ( b { } ) { } => 62:0[66:1[87:3[5:2 91:5[5:4]]] 40:8]",
                "switch ( a { } ) { } => 68:0[89:1[91:3[5:2]]]",
                "switch a ( b { } ) . ( type ) { } => 68:0[69:9[87:2[5:1 91:4[5:3]]]]",
                "if ( a ( ) ) { } => 60:0[89:1[87:3[5:2]] 40:6]",
                "if ( a { } ) == b { } => 60:0[80:6[89:1[91:3[5:2]] 5:7] 40:8]",
                "if ( a { } ) == b { } # . c { }", "if a ( b { } ) + c { } # { }", "if a [ b { } ] == c { } # { }",
                "if [ ] a { b { } } == c { } # { }", "if ( a { } # ; )", "if ( a { # ; } ) { }",
                "for a ( b { } ) ; c # { } ; { }", "switch ( a { } ) + b { # c }",
                "if [ 1 ] a ( ) == b { } => 60:0[80:7[87:5[21:1[88:2 5:4]] 5:8] 40:9]",
                "if [ 1 ] a ( ) == b { } # { }", "if func ( ) { var ( a = b { } ) } { } => "
                + "60:0[90:1[14:2[15:2] 40:4[8:5[11:7[12:7[5:7] 13:9[91:10[5:9]]]]]] 40:14]",
                "if func ( ) { a ( b { } ) } { } => 60:0[90:1[14:2[15:2] 40:4[50:5[87:6[5:5 91:8[5:7]]]]] 40:12]",
                "if func ( ) { a # { } } { }", "if func ( ) { var ( a = b { } ) ; c # { } } { }",
                "if func ( ) { a ( b { } ) ; c # { } } { }");
    }

    private static void typesInHeads() {
        HOLD.stmts("func Signature before '{' is a function, there, too",
                "if func ( ) { } { } => 60:0[90:1[14:2[15:2] 40:4] 40:6]",
                "if func ( ) a { } ( ) { } => 60:0[87:7[90:1[14:2[15:2 5:4] 40:5]] 40:9]",
                "for func ( ) { } { } => 62:0[90:1[14:2[15:2] 40:4] 40:6]",
                "for ; ; func ( ) { } ( ) { } => 62:0[63:1 64:2 65:2[50:3[87:8[90:3[14:4[15:4] 40:6]]]] 40:10]",
                "switch func ( ) { } { } => 68:0[90:1[14:2[15:2] 40:4]]",
                "switch func ( ) { } ( ) . ( type ) { } => 68:0[69:10[87:6[90:1[14:2[15:2] 40:4]]]]",
                "func ( ) { } => 50:0[90:0[14:1[15:1] 40:3]]",
                "if func ( ) { } ; # ;", "if func ( ) { } # }", "for func ( ) { } # }",
                "switch func ( ) { # case a : }", "if func ( ) a { } # }");
        HOLD.stmts("a Type 20, 21, 22 or 27 before '{' begins a Literal, there, too",
                "if [ ] a { } { } => 60:0[91:4[20:1[5:3]] 40:6]",
                "if [ 1 ] a { } { } => 60:0[91:5[21:1[88:2 5:4]] 40:7]",
                "if [ ... ] a { } { } => 60:0[91:5[21:1[17:2 5:4]] 40:7]",
                "if map [ a ] b { } { } => 60:0[91:6[22:1[5:3 5:5]] 40:8]",
                "if struct { } { } { } => 60:0[91:4[27:1] 40:6]",
                "if [ ] func ( ) { } { } => 60:0[91:6[20:1[29:3[14:4[15:4]]]] 40:8]",
                "for [ ] a { } { } => 62:0[91:4[20:1[5:3]] 40:6]",
                "for range [ ] a { } { } => 62:0[66:1[91:5[20:2[5:4]]] 40:7]",
                "for ; ; [ ] a { } { } => 62:0[63:1 64:2 65:2[50:3[91:6[20:3[5:5]]]] 40:8]",
                "switch map [ a ] b { } { } => 68:0[91:6[22:1[5:3 5:5]]]",
                "switch struct { } { } { } => 68:0[91:4[27:1]]",
                "if chan a { } => 60:0[23:1[5:2] 40:3]", "if chan [ ] a { } => 60:0[23:1[20:2[5:4]] 40:5]",
                "if interface { } { } => 60:0[30:1 40:4]", "if <- chan a { } => 60:0[25:1[5:3] 40:4]",
                "if [ ] a ( b ) { } => 60:0[87:4[20:1[5:3] 5:5] 40:7]",
                "if [ ] a { } # }", "if [ ] a { b # ; }", "if map [ a ] b { } # }", "if struct { } { } # }",
                "if struct { } { } # a", "for [ ] a { } # }", "switch [ ] a { # case b : }",
                "if [ ... ] a # ; b { }", "if chan a { } # { }", "if interface { } { } # { }",
                "switch interface { } { # a }");
    }
}
