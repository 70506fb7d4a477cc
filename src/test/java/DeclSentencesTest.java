/** The GRAMMAR, sentence by sentence: the File, the Decls, the Signatures and the Types. */
public final class DeclSentencesTest {
    private static final Check CHECK = new Check();
    private static final Sentences HOLD = new Sentences(CHECK);

    public static void main(String[] args) {
        files();
        groups();
        specs();
        signatures();
        params();
        listTypes();
        chanTypes();
        bracedTypes();
        CHECK.end();
    }

    private static void files() {
        HOLD.files("File [1, package]: package NAME ; {Top ;} END",
                "package p ; => 1:0[5:1]",
                "package p ; const a ; => 1:0[5:1 6:3[9:4[12:4[5:4]]]]",
                "package p ; const a ; func f ( ) { } ; var b c ; => 1:0[5:1 6:3[9:4[12:4[5:4]]] "
                + "2:6[5:7 14:8[15:8] 40:10] 8:13[11:14[12:14[5:14] 5:15]]]",
                "#", "# p", "# ;", "package #", "package # ;", "package # 1 ;", "package p #", "package p # . q ;",
                "package p # const a ;", "package p ; # ;", "package p ; const a #", "package p ; const a ; # ;",
                "package p ; func f ( ) { } #", "package p ; func f ( ) { } # func g ( ) { } ;",
                "package p ; # package p ;", "package p ; # import \"s\" ;", "package p ; # a ;", "package p ; # )");
        HOLD.tops("func NAME Signature Block [2, func: Name, Signature, Block]",
                "func f ( ) { } => 2:0[5:1 14:2[15:2] 40:4]",
                "func f ( a ) b { c } => 2:0[5:1 14:2[15:2[16:3[5:3]] 5:5] 40:6[50:7[5:7]]]",
                "func # ;", "func # 1", "func # { }", "func f # ;", "func f # { }", "func f ( ) # ;", "func f ( ) #",
                "func f ( ) { } # { }", "func f ( ) { } # ( )");
        HOLD.tops("func '(' [NAME] Type ')' NAME Signature Block [3, func: Receiver, Name, Signature, Block; "
                + "Receiver: 4, '(', Name if there is one, Type]",
                "func ( a ) f ( ) { } => 3:0[4:1[5:2] 5:4 14:5[15:5] 40:7]",
                "func ( a b ) f ( ) { } => 3:0[4:1[5:2 5:3] 5:5 14:6[15:6] 40:8]",
                "func ( * a ) f ( ) { } => 3:0[4:1[26:2[5:3]] 5:5 14:6[15:6] 40:8]",
                "func ( a ( b ) ) f ( ) { } => 3:0[4:1[5:2 5:4] 5:7 14:8[15:8] 40:10]",
                "func ( # ) f ( ) { }", "func ( # 1 ) f ( ) { }", "func ( a # , b c ) f ( ) { }",
                "func ( a b # c ) f ( ) { }", "func ( * a # b ) f ( ) { }", "func ( a # ... b ) f ( ) { }",
                "func ( a # ; ) f ( ) { }", "func ( a b # , ) f ( ) { }", "func ( a ) # ( ) { }",
                "func ( a ) # ( b ) f ( ) { }", "func ( a ) f # { }", "func ( a ) f ( ) # ;");
    }

    private static void groups() {
        HOLD.tops("Decl: const Group of Const | type Group of TypeSpec | var Group of Var",
                "const a = 1 => 6:0[9:1[12:1[5:1] 13:3[88:3]]]", "type a b => 7:0[10:1[5:1 5:2]]",
                "var a b => 8:0[11:1[12:1[5:1] 5:2]]",
                "const # ;", "type # ;", "var # ;", "# import a", "const # const a", "type ( # ( a b ) )");
        HOLD.tops("Group of X: X | '(' {X ;} ')', the X being children of 6 (const), 7 (type), 8 (var)",
                "const ( ) => 6:0", "type ( ) => 7:0", "var ( ) => 8:0",
                "const ( a ; ) => 6:0[9:2[12:2[5:2]]]",
                "const ( a ; b ; ) => 6:0[9:2[12:2[5:2]] 9:4[12:4[5:4]]]",
                "type ( a b ; c d ; ) => 7:0[10:2[5:2 5:3] 10:5[5:5 5:6]]",
                "var ( a b ; c = 1 ; ) => 8:0[11:2[12:2[5:2] 5:3] 11:5[12:5[5:5] 13:7[88:7]]]",
                "const ( # ; )", "const ( a ; # ; )", "const ( # ( a ) )", "const ( # 1 )", "const ( #",
                "const ( a ; #", "const ( a ; ) # b", "var ( a b ; c # ; )", "type ( a b ; # const )",
                "const a ; # b", "const ( a # ] )");
        HOLD.tops("Before ')' and '}' a ; may be left out",
                "const ( a ) => 6:0[9:2[12:2[5:2]]]", "const ( a ; ) => 6:0[9:2[12:2[5:2]]]",
                "type ( a b ) => 7:0[10:2[5:2 5:3]]", "var ( a b ; c d ) => "
                + "8:0[11:2[12:2[5:2] 5:3] 11:5[12:5[5:5] 5:6]]",
                "type a struct { b c } => 7:0[10:1[5:1 27:2[28:4[12:4[5:4] 5:5]]]]",
                "type a struct { b c ; } => 7:0[10:1[5:1 27:2[28:4[12:4[5:4] 5:5]]]]",
                "type a interface { b ( ) } => 7:0[10:1[5:1 30:2[31:4[5:4 14:5[15:5]]]]]",
                "type a interface { b ( ) ; } => 7:0[10:1[5:1 30:2[31:4[5:4 14:5[15:5]]]]]",
                "const ( a ; # ; )", "const ( a = 1 # b )", "var ( a b # c d )", "type a struct { b c # d e }",
                "type a struct { b c ; # ; }", "type a interface { b ( ) ; # ; }",
                "type a interface { b ( ) c # d ( ) }", "const a = 1 #", "const ( a ) #", "const ( a #");
    }

    private static void specs() {
        HOLD.tops("Const [9]: Names [[Type] = Exprs] (Type and Exprs only if they are there)",
                "const a => 6:0[9:1[12:1[5:1]]]", "const a = 1 => 6:0[9:1[12:1[5:1] 13:3[88:3]]]",
                "const a b = 1 => 6:0[9:1[12:1[5:1] 5:2 13:4[88:4]]]",
                "const a , b [ ] c = 1 , 1 => 6:0[9:1[12:1[5:1 5:3] 20:4[5:6] 13:8[88:8 88:10]]]",
                "const a b # ;", "const ( a b # )", "const a = # ;", "const a b = # ;", "const a # := 1",
                "const a b # c = 1", "const # = 1", "const a = 1 # = 2", "const a # 1");
        HOLD.tops("TypeSpec [10]: NAME Type",
                "type a b => 7:0[10:1[5:1 5:2]]", "type a [ ] b => 7:0[10:1[5:1 20:2[5:4]]]",
                "type a # ;", "type ( a # )", "type a # = b", "type a # , b c", "type a b # = c", "type a b # c",
                "type # [ ] b", "type a # 1");
        HOLD.tops("Var [11]: Names Type [= Exprs] | Names = Exprs",
                "var a b => 8:0[11:1[12:1[5:1] 5:2]]", "var a b = 1 => 8:0[11:1[12:1[5:1] 5:2 13:4[88:4]]]",
                "var a = 1 => 8:0[11:1[12:1[5:1] 13:3[88:3]]]",
                "var a # ;", "var ( a # )", "var a , b # ;", "var a = # ;", "var a b = # ;", "var a b # c",
                "var a # := 1", "var a b # , c", "var # = 1", "var a = 1 # = 2");
        HOLD.tops("9 to 11 bear their first NAME",
                "const ( a ; b , c ) => 6:0[9:2[12:2[5:2]] 9:4[12:4[5:4 5:6]]]",
                "type ( a b ; c d ) => 7:0[10:2[5:2 5:3] 10:5[5:5 5:6]]",
                "var ( a b ; c , d e ) => 8:0[11:2[12:2[5:2] 5:3] 11:5[12:5[5:5 5:7] 5:8]]",
                "const ( a ; b , # )");
        HOLD.tops("Names [12, the first NAME]: NAME {, NAME}",
                "var a b => 8:0[11:1[12:1[5:1] 5:2]]", "var a , b c => 8:0[11:1[12:1[5:1 5:3] 5:4]]",
                "var a , b , c d => 8:0[11:1[12:1[5:1 5:3 5:5] 5:6]]",
                "var # , a b", "var a , # ;", "var a , # , b c", "var a , # = 1", "var a , # 1", "var a , # ( b )",
                "const a , # ;");
        HOLD.tops("Exprs [13, the first token of the first]: Expr {, Expr}",
                "var a = b => 8:0[11:1[12:1[5:1] 13:3[5:3]]]",
                "var a = b , c , d => 8:0[11:1[12:1[5:1] 13:3[5:3 5:5 5:7]]]",
                "var a = - b , c => 8:0[11:1[12:1[5:1] 13:3[81:3[5:4] 5:6]]]",
                "var a = ( b ) . c => 8:0[11:1[12:1[5:1] 13:3[82:6[89:3[5:4] 5:7]]]]",
                "var a = b + c => 8:0[11:1[12:1[5:1] 13:3[80:4[5:3 5:5]]]]",
                "var a = # , b", "var a = b , # ;", "var a = b , # , c", "var a = b # c", "const a = 1 , # ;");
    }

    private static void signatures() {
        HOLD.tops("Signature [14, '(' ]: Params [Params | Type that does not begin with <-]",
                "func f ( ) { } => 2:0[5:1 14:2[15:2] 40:4]", "func f ( ) ( ) { } => 2:0[5:1 14:2[15:2 15:4] 40:6]",
                "func f ( ) a { } => 2:0[5:1 14:2[15:2 5:4] 40:5]",
                "func f ( ) ( a ) { } => 2:0[5:1 14:2[15:2 15:4[16:5[5:5]]] 40:7]",
                "func f ( ) chan a { } => 2:0[5:1 14:2[15:2 23:4[5:5]] 40:6]",
                "func f ( ) ( <- chan a ) { } => 2:0[5:1 14:2[15:2 15:4[16:5[25:5[5:7]]]] 40:9]",
                "func f ( ) chan <- a { } => 2:0[5:1 14:2[15:2 24:4[5:6]] 40:7]",
                "func f # a { }", "func f ( ) # <- chan a { }", "func f ( ) ( ) # ( ) { }", "func f ( ) a # b { }",
                "func f ( ) ( a ) # b { }", "func f ( ) a # ( ) { }", "func f ( ) # 1 { }", "func f ( ) a # , b { }",
                "var a func ( ) # <- chan b", "var a interface { b ( ) # <- chan c }");
        HOLD.stmts("(a token that can begin these does)",
                "func ( ) ( a ) => 50:0[29:0[14:1[15:1 15:3[16:4[5:4]]]]]",
                "func ( ) ( a ) ( b ) => 50:0[87:6[29:0[14:1[15:1 15:3[16:4[5:4]]]] 5:7]]",
                "func ( ) a ( b ) => 50:0[87:4[29:0[14:1[15:1 5:3]] 5:5]]",
                "func ( ) [ ] a => 50:0[29:0[14:1[15:1 20:3[5:5]]]]",
                "func ( ) [ 1 ] a => 50:0[29:0[14:1[15:1 21:3[88:4 5:6]]]]",
                "func ( ) a [ 1 ] => 50:0[84:4[29:0[14:1[15:1 5:3]] 88:5]]",
                "func ( ) * a => 50:0[29:0[14:1[15:1 26:3[5:4]]]]",
                "func ( ) / a => 50:0[80:3[29:0[14:1[15:1]] 5:4]]",
                "func ( ) <- a => 51:3[29:0[14:1[15:1]] 5:4]",
                "func ( ) func ( ) a => 50:0[29:0[14:1[15:1 29:3[14:4[15:4 5:6]]]]]",
                "func ( ) ( # 1 )", "func ( ) [ ] # ;", "func ( ) [ a # : b ]", "func ( ) [ 1 ] # ;",
                "func ( ) * # 1", "func ( ) <- # ;");
    }

    private static void params() {
        HOLD.tops("Params [15, '(' ]: '(' [Param {, Param} [,]] ')'",
                "func f ( ) { } => 2:0[5:1 14:2[15:2] 40:4]", "func f ( a ) { } => 2:0[5:1 14:2[15:2[16:3[5:3]]] 40:5]",
                "func f ( a , ) { } => 2:0[5:1 14:2[15:2[16:3[5:3]]] 40:6]",
                "func f ( a , b ) { } => 2:0[5:1 14:2[15:2[16:3[5:3] 16:5[5:5]]] 40:7]",
                "func f ( a , b , ) ( c , ) { } => "
                + "2:0[5:1 14:2[15:2[16:3[5:3] 16:5[5:5]] 15:8[16:9[5:9]]] 40:12]",
                "func f ( # , ) { }", "func f ( a , # , ) { }", "func f ( a # ; ) { }", "func f ( a , b , # , )",
                "func f ( ) ( # , ) { }", "func f ( # ; ) { }", "func f ( a # } )", "func f ( a #", "func f ( a , #");
        HOLD.tops("Param [16, its first token]: [Name] [...] Type, either all with a name or all without",
                "func f ( a b ) { } => 2:0[5:1 14:2[15:2[16:3[5:3 5:4]]] 40:6]",
                "func f ( [ ] a ) { } => 2:0[5:1 14:2[15:2[16:3[20:3[5:5]]]] 40:7]",
                "func f ( ( a ) ) { } => 2:0[5:1 14:2[15:2[16:3[5:4]]] 40:7]",
                "func f ( a ( b ) ) { } => 2:0[5:1 14:2[15:2[16:3[5:3 5:5]]] 40:8]",
                "func f ( a b , c [ ] d ) { } => 2:0[5:1 14:2[15:2[16:3[5:3 5:4] 16:6[5:6 20:7[5:9]]]] 40:11]",
                "func f ( [ ] a , b ) { } => 2:0[5:1 14:2[15:2[16:3[20:3[5:5]] 16:7[5:7]]] 40:9]",
                "func f ( a , [ ] b ) { } => 2:0[5:1 14:2[15:2[16:3[5:3] 16:5[20:5[5:7]]]] 40:9]",
                "func f ( a <- chan b ) { } => 2:0[5:1 14:2[15:2[16:3[5:3 25:4[5:6]]]] 40:8]",
                "func f ( a b , # [ ] c ) { }", "func f ( a b , c # ) { }", "func f ( a b , c , # ) { }",
                "func f ( [ ] a , b # c ) { }", "func f ( a , [ ] b , c # d ) { }", "func f ( a b , # ... c ) { }",
                "func f ( a b # c ) { }", "func f ( [ ] a # b ) { }", "func f ( a # . b ) { }", "func f ( # 1 ) { }",
                "func f ( a , * b , c # [ ] d ) { }", "func f ( ( a ) # b ) { }");
        HOLD.tops("of a, b T the a has no Type (it has that of b: only Name is a child)",
                "func f ( a , b c ) { } => 2:0[5:1 14:2[15:2[16:3[5:3] 16:5[5:5 5:6]]] 40:8]",
                "func f ( a b , c , d e ) { } => "
                + "2:0[5:1 14:2[15:2[16:3[5:3 5:4] 16:6[5:6] 16:8[5:8 5:9]]] 40:11]",
                "func f ( a , b , c [ ] d , ) { } => "
                + "2:0[5:1 14:2[15:2[16:3[5:3] 16:5[5:5] 16:7[5:7 20:8[5:10]]]] 40:13]",
                "func f ( a , b c , d # ) { }", "func f ( a , b c , d , # ) { }", "func f ( a , b c , d , # * e )",
                "func f ( a , b c , d , e # ) { }");
        HOLD.tops("... (a child 17, ...) only before the Type of the last one, with its name alone",
                "func f ( ... a ) { } => 2:0[5:1 14:2[15:2[16:3[17:3 5:4]]] 40:6]",
                "func f ( a ... b ) { } => 2:0[5:1 14:2[15:2[16:3[5:3 17:4 5:5]]] 40:7]",
                "func f ( a , ... b ) { } => 2:0[5:1 14:2[15:2[16:3[5:3] 16:5[17:5 5:6]]] 40:8]",
                "func f ( a b , c ... [ ] d , ) { } => "
                + "2:0[5:1 14:2[15:2[16:3[5:3 5:4] 16:6[5:6 17:7 20:8[5:10]]]] 40:13]",
                "func f ( ) ( ... a ) { } => 2:0[5:1 14:2[15:2 15:4[16:5[17:5 5:6]]] 40:8]",
                "func f ( ... a , # b ) { }", "func f ( a ... b , # c d ) { }", "func f ( ... a , # ... b ) { }",
                "func f ( a , b # ... c ) { }", "func f ( a b , c , d # ... e ) { }", "func f ( ... # ) { }",
                "func f ( a ... # ) { }", "func f ( ... # ... a ) { }", "func f ( ... a # ... ) { }",
                "func f ( ... a # b ) { }", "func f ( [ ] a # ... ) { }", "func f ( ) # ... a { }", "var a # ... b");
    }

    private static void listTypes() {
        HOLD.types("Type: Name",
                "a => 5:0", "#", "# ;", "# 1", "# \"s\"", "a # . b", "a # b", "a # { }", "# & a", "# const", "# ~ a");
        HOLD.types("'(' Type ')'",
                "( a ) => 5:1", "( ( a ) ) => 5:2", "( * a ) => 26:1[5:2]", "* ( a ) => 26:0[5:2]",
                "( # )", "( a # , b )", "( a # ; )", "( # 1 )", "( a #", "( a ) # b");
        HOLD.types("'[' ']' Type [20, '[' ]",
                "[ ] a => 20:0[5:2]", "[ ] [ ] a => 20:0[20:2[5:4]]", "[ ] # ;", "[ ] # ]", "[ # ) a", "[ ] a # { }");
        HOLD.types("'[' Expr ']' Type [21, '[' ]",
                "[ 1 ] a => 21:0[88:1 5:3]", "[ a + b ] c => 21:0[80:2[5:1 5:3] 5:5]",
                "[ [ ] a { } ] b => 21:0[91:4[20:1[5:3]] 5:7]", "[ 1 ] [ ] a => 21:0[88:1 20:3[5:5]]",
                "[ 1 ] # ;", "[ 1 # , 2 ] a", "[ # ... ] a", "[ 1 # : ] a", "[ # : ] a", "[ 1 # ; ] a", "[ 1 #");
        HOLD.types("map '[' Type ']' Type [22, map]",
                "map [ a ] b => 22:0[5:2 5:4]", "map [ map [ a ] b ] [ ] c => 22:0[22:2[5:4 5:6] 20:8[5:10]]",
                "map # a", "map # ( a )", "map [ # ]", "map [ # 1 ] a", "map [ a # , b ] c", "map [ a ] # ;",
                "map [ a #");
        HOLD.types("* Type [26, *]",
                "* a => 26:0[5:1]", "* * a => 26:0[26:1[5:2]]", "* # ;", "* # 1", "* a # * b");
    }

    private static void chanTypes() {
        HOLD.types("chan <- Type [24, chan]",
                "chan <- a => 24:0[5:2]", "chan <- [ ] a => 24:0[20:2[5:4]]", "chan <- # ;", "chan <- # 1");
        HOLD.types("(<- behind chan is always this)",
                "chan <- chan a => 24:0[23:2[5:3]]", "chan ( <- chan a ) => 23:0[25:2[5:4]]",
                "chan <- <- chan a => 24:0[25:2[5:4]]", "chan <- chan <- a => 24:0[24:2[5:4]]",
                "chan <- <- # a", "chan <- <- # <- chan a");
        HOLD.types("chan Type [23, chan]",
                "chan a => 23:0[5:1]", "chan chan a => 23:0[23:1[5:2]]", "chan ( a ) => 23:0[5:2]",
                "chan # ;", "chan # 1", "chan a # b");
        HOLD.types("<- chan Type [25, <-]",
                "<- chan a => 25:0[5:2]", "<- chan chan a => 25:0[23:2[5:3]]",
                "<- chan ( <- chan a ) => 25:0[25:3[5:5]]",
                "<- # a", "<- # ;", "<- # ( chan a )", "<- # <- chan a", "<- chan # ;");
        HOLD.types("func Signature [29, func]",
                "func ( ) => 29:0[14:1[15:1]]", "func ( a ) b => 29:0[14:1[15:1[16:2[5:2]] 5:4]]",
                "func # ;", "func # a", "func # f ( )", "func ( ) # { }", "func ( ) a # { }", "func ( ) a # b");
    }

    private static void bracedTypes() {
        HOLD.types("struct '{' {Names Type ;} '}' [27, struct; children 28, the first NAME: Names, Type]",
                "struct { } => 27:0", "struct { a b ; } => 27:0[28:2[12:2[5:2] 5:3]]",
                "struct { a , b c ; d [ ] e } => 27:0[28:2[12:2[5:2 5:4] 5:5] 28:7[12:7[5:7] 20:8[5:10]]]",
                "struct # ;", "struct # ( )", "struct { # ; }", "struct { a # }", "struct { a # ; }",
                "struct { a , # }",
                "struct { a , b # }", "struct { # * a }", "struct { a b # , c }", "struct { a b # = 1 }",
                "struct { a b # c }", "struct { a b #", "struct { a # . b }", "struct { a b # \"s\" }");
        HOLD.types("interface '{' {NAME Signature ;} '}' [30, interface; children 31, NAME: Name, Signature]",
                "interface { } => 30:0", "interface { a ( ) ; } => 30:0[31:2[5:2 14:3[15:3]]]",
                "interface { a ( ) ; b ( c ) d } => 30:0[31:2[5:2 14:3[15:3]] 31:6[5:6 14:7[15:7[16:8[5:8]] 5:10]]]",
                "interface # ;", "interface { # ; }", "interface { a # }", "interface { a # ; }", "interface { a # b }",
                "interface { a # , b ( ) }", "interface { # ( ) }", "interface { a ( ) # { } }",
                "interface { a ( ) # ) }", "interface { # func ( ) }", "interface { a ( ) #");
    }
}
