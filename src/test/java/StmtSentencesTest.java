/** The GRAMMAR, sentence by sentence: the Blocks, the statements and their heads. */
public final class StmtSentencesTest {
    private static final Check CHECK = new Check();
    private static final Sentences HOLD = new Sentences(CHECK);
    private static final String[] OP_ASSIGNS = "+= -= *= /= %= &= |= ^= <<= >>= &^=".split(" ");

    public static void main(String[] args) {
        blocks();
        words();
        simples();
        opAssigns();
        ifs();
        fors();
        ranges();
        switches();
        guards();
        clauses();
        selects();
        CHECK.end();
    }

    private static void blocks() {
        HOLD.stmts("Block [40, '{' ]: '{' Stmts '}'",
                "{ } => 40:0", "{ a } => 40:0[50:1[5:1]]", "{ a ; b } => 40:0[50:1[5:1] 50:3[5:3]]",
                "{ { } } => 40:0[40:1]", "{ # )", "{ a # )", "{ #", "{ a #", "{ } } ; # }",
                "{ } # { }", "{ } # a");
        HOLD.stmts("Stmts: Stmt {; Stmt}, each of which may be nothing",
                "=>", "; =>", "; ; ; =>", "a => 50:0[5:0]", "a ; => 50:0[5:0]", "; a => 50:1[5:1]",
                "; ; a ; ; b ; => 50:2[5:2] 50:5[5:5]", "{ ; } => 40:0",
                "a # b", "1 # { }", "a ; # )", "# ,", "a ; # ,", "fallthrough # fallthrough");
        HOLD.stmts("Stmt: Decl",
                "const a => 6:0[9:1[12:1[5:1]]]", "type ( a b ) => 7:0[10:2[5:2 5:3]]",
                "var a = b ; c => 8:0[11:1[12:1[5:1] 13:3[5:3]]] 50:5[5:5]",
                "# import a", "# package a", "func # f ( ) { }", "var a b # c", "const a b # }");
        HOLD.stmts("NAME : Stmt [41, : ; Name, the Stmt if there is one]",
                "a : => 41:1[5:0]", "a : ; => 41:1[5:0]", "a : ; b => 41:1[5:0] 50:3[5:3]",
                "a : b => 41:1[5:0 50:2[5:2]]", "a : b : c => 41:1[5:0 41:3[5:2 50:4[5:4]]]",
                "a : b : => 41:1[5:0 41:3[5:2]]", "a : { } => 41:1[5:0 40:2]",
                "a : const b => 41:1[5:0 6:2[9:3[12:3[5:3]]]]",
                "1 # : a", "a . b # : c", "( a ) # : b", "a , b # : c", "# :", "a : # :", "a : # )", "a : b # b",
                "a : # case", "go a # : b");
    }

    private static void words() {
        HOLD.stmts("go Expr [42]",
                "go a => 42:0[5:1]", "go a ( b ) => 42:0[87:2[5:1 5:3]]", "go # ;", "go # }", "go a # , b", "go a # ++",
                "go a # = b", "go # { }", "go # go a");
        HOLD.stmts("defer Expr [43]",
                "defer a => 43:0[5:1]", "defer - a => 43:0[81:1[5:2]]", "defer # ;", "defer # }", "defer a # , b",
                "defer a # --", "defer a # := b", "defer # defer a");
        HOLD.stmts("return [Exprs] [44]",
                "return => 44:0", "return ; => 44:0", "return a => 44:0[13:1[5:1]]",
                "return a , - b => 44:0[13:1[5:1 81:3[5:4]]]", "return <- chan a => 44:0[13:1[25:1[5:3]]]",
                "return a , # ;", "return # ,", "return a # = b", "return # { }", "return # return", "return a # ++");
        HOLD.stmts("break [NAME] [45]",
                "break => 45:0", "break a => 45:0[5:1]", "break ; a => 45:0 50:2[5:2]", "break # 1", "break a # b",
                "break a # . b", "break a # { }", "break # ( a )", "break # break");
        HOLD.stmts("continue [NAME] [46]",
                "continue => 46:0", "continue a => 46:0[5:1]", "continue # 1", "continue a # , b", "continue a # :",
                "continue # { }");
        HOLD.stmts("fallthrough [47]",
                "fallthrough => 47:0", "fallthrough ; a => 47:0 50:2[5:2]", "fallthrough # a", "fallthrough # ,");
        HOLD.stmts("Stmt: .. Block | If | Switch | Select | For",
                "{ } ; if a { } ; switch { } ; select { } ; for { } => 40:0 60:3[5:4 40:5] 68:8 73:12 62:16[40:17]",
                "# else { }", "# case a :", "# default :", "# range a", "# goto a", "# ~", "# ... a", "# . a", "# ]");
    }

    private static void simples() {
        HOLD.stmts("Expr [50, its first token]",
                "a => 50:0[5:0]", "- a => 50:0[81:0[5:1]]", "a + b => 50:0[80:1[5:0 5:2]]",
                "( a ) . b => 50:0[82:3[89:0[5:1] 5:4]]", "a # 1", "a , b # ;", "a # ! b", "# / a", "# == a");
        HOLD.stmts("Expr <- Expr [51, <-]",
                "a <- b => 51:1[5:0 5:2]", "a . b <- <- c => 51:3[82:1[5:0 5:2] 81:4[5:5]]",
                "a <- # ;", "a <- b # <- c", "a <- b # , c", "a , b # <- c", "a <- b # = c", "a <- b # ++");
        HOLD.stmts("Expr ++ [52]",
                "a ++ => 52:1[5:0]", "a [ b ] ++ => 52:4[84:1[5:0 5:2]]", "# ++", "a ++ # ++", "a ++ # a", "a , b # ++",
                "a ++ # = b");
        HOLD.stmts("Expr -- [53]",
                "a -- => 53:1[5:0]", "* a -- => 53:2[81:0[5:1]]", "# --", "a -- # --", "a -- # ++", "a , b # --");
        HOLD.stmts("Exprs = Exprs [54, =]",
                "a = b => 54:1[13:0[5:0] 13:2[5:2]]", "a , b . c = d => 54:5[13:0[5:0 82:3[5:2 5:4]] 13:6[5:6]]",
                "a = b , c => 54:1[13:0[5:0] 13:2[5:2 5:4]]", "1 = 1 => 54:1[13:0[88:0] 13:2[88:2]]",
                "( a ) , b = c => 54:5[13:0[89:0[5:1] 5:4] 13:6[5:6]]",
                "a = # ;", "# = a", "a , # = b", "a , b # ;", "a = b , # ;", "a = b # = c", "a = b # := c",
                "a = b # += c", "a , b # )");
        HOLD.stmts("Names := Exprs [56, :=]",
                "a := b => 56:1[12:0[5:0] 13:2[5:2]]", "a , b := c => 56:3[12:0[5:0 5:2] 13:4[5:4]]",
                "a := b , c => 56:1[12:0[5:0] 13:2[5:2 5:4]]", "a , b := c , d => 56:3[12:0[5:0 5:2] 13:4[5:4 5:6]]",
                "# := a", "a := # ;", "a . b # := c", "( a ) # := b", "1 # := a", "- a # := b", "a ( ) # := b",
                "a { } # := b", "a , b . c # := d", "a , 1 # := b", "1 , a # := b", "a := b # := c", "a := b # = c",
                "a := b , # ;");
    }

    private static void opAssigns() {
        for (String sign : OP_ASSIGNS) {
            HOLD.stmts("Expr op= Expr [55, op=]",
                    "a $ b => 55:1[5:0 5:2]".replace("$", sign),
                    "a . b $ c + d => 55:3[82:1[5:0 5:2] 80:5[5:4 5:6]]".replace("$", sign),
                    "a $ # ;".replace("$", sign), "a , b # $ c".replace("$", sign), "a $ b # , c".replace("$", sign),
                    "a $ b # $ c".replace("$", sign), "# $ a".replace("$", sign), "a = b # $ c".replace("$", sign));
        }
        HOLD.stmts("op= are the signs from += to &^=, and no others",
                "a += b => 55:1[5:0 5:2]", "a &^= b => 55:1[5:0 5:2]", "a &^ b => 50:0[80:1[5:0 5:2]]",
                "a && b => 50:0[80:1[5:0 5:2]]", "a == b => 50:0[80:1[5:0 5:2]]",
                "a != b => 50:0[80:1[5:0 5:2]]", "a <= b => 50:0[80:1[5:0 5:2]]", "a >= b => 50:0[80:1[5:0 5:2]]",
                "a &^ # = b", "a # ! = b", "a # ~ = b", "a == # = b");
    }

    private static void ifs() {
        HOLD.stmts("If [60, if]: if [[Simple] ;] Expr Block",
                "if a { } => 60:0[5:1 40:2]", "if a + b { c } => 60:0[80:2[5:1 5:3] 40:4[50:5[5:5]]]",
                "if # { }", "if # ) { }", "if a ; # ;", "if a # b", "if a , b # { }", "if a # }",
                "if a ++ # { }", "if a = b # { }", "if a := b # { }", "if a <- b # { }", "if a += b # { }",
                "if a ; b # ; c { }", "if a ; b # = c { }", "if a ; b # := c { }", "if a ; b # ++ { }",
                "if # var a b ; c { }", "if # return { }", "if # range a { }", "if a = # range b { }",
                "if a # : b", "if # if a { }", "if a #", "if a { } # a");
        HOLD.stmts("before the Expr stands a child 61 (the ;) if there is a ; with the Simple in it, if any",
                "if ; a { } => 60:0[61:1 5:2 40:3]", "if a ; b { } => 60:0[61:2[50:1[5:1]] 5:3 40:4]",
                "if a <- b ; c { } => 60:0[61:4[51:2[5:1 5:3]] 5:5 40:6]",
                "if a ++ ; b { } => 60:0[61:3[52:2[5:1]] 5:4 40:5]",
                "if a -- ; b { } => 60:0[61:3[53:2[5:1]] 5:4 40:5]",
                "if a , b = c ; d { } => 60:0[61:6[54:4[13:1[5:1 5:3] 13:5[5:5]]] 5:7 40:8]",
                "if a |= b ; c { } => 60:0[61:4[55:2[5:1 5:3]] 5:5 40:6]",
                "if a := b , c ; d { } => 60:0[61:6[56:2[12:1[5:1] 13:3[5:3 5:5]]] 5:7 40:8]",
                "if ; # { }", "if a ; # { }", "if ; # ; a { }", "if a := b ; # { }");
        HOLD.stmts("[else If | else Block]",
                "if a { } else { } => 60:0[5:1 40:2 40:5]", "if a { } else if b { } => 60:0[5:1 40:2 60:5[5:6 40:7]]",
                "if a { } else if ; b { } else { c } => 60:0[5:1 40:2 60:5[61:6 5:7 40:8 40:11[50:12[5:12]]]]",
                "if a { } else # ;", "if a { } else # a", "if a { } else # for { }", "if a { } else # else { }",
                "if a { } else { } # else { }", "if a { } ; # else { }", "if a { } # if b { }", "if a # else { }",
                "if a { } else if # { }", "if a { } else #", "for { } # else { }", "switch { } # else { }");
    }

    private static void fors() {
        HOLD.stmts("For [62, for]: for Block",
                "for { } => 62:0[40:1]", "for { a } => 62:0[40:1[50:2[5:2]]]", "for # )", "for # }", "for #",
                "for { } # { }", "for # var a b ; ; { }", "for # for { }");
        HOLD.stmts("for Expr Block",
                "for a { } => 62:0[5:1 40:2]", "for a == b { c } => 62:0[80:2[5:1 5:3] 40:4[50:5[5:5]]]",
                "for a # b", "for a , b # { }", "for a = b # { }", "for a := b # { }", "for a ++ # { }",
                "for a <- b # { }", "for a += b # { }", "for a # : { }");
        HOLD.stmts("for [Simple] ; [Expr] ; [Post] Block "
                + "(children 63 (the first ;), 64 (the second ;) and 65 (the second ;) with what there is, Block)",
                "for ; ; { } => 62:0[63:1 64:2 65:2 40:3]",
                "for a ; ; { } => 62:0[63:2[50:1[5:1]] 64:3 65:3 40:4]",
                "for ; a ; { } => 62:0[63:1 64:3[5:2] 65:3 40:4]",
                "for ; ; a { } => 62:0[63:1 64:2 65:2[50:3[5:3]] 40:4]",
                "for a := b ; c ; d ++ { e } => "
                + "62:0[63:4[56:2[12:1[5:1] 13:3[5:3]]] 64:6[5:5] 65:6[52:8[5:7]] 40:9[50:10[5:10]]]",
                "for ; # { }", "for a ; # { }", "for a ; b # { }", "for ; ; # ; { }", "for ; ; a # ; { }",
                "for ; a # = b ; { }", "for ; a # := b ; { }", "for ; a # ++ ; { }", "for ; a # , b ; { }",
                "for a , b # ; ; { }", "for ; # range a { }", "for ; ; # range a { }", "for ; ; #", "for ; ; a #",
                "for ; ; # )", "for ; # )");
        HOLD.stmts("Post: a Simple that is no 56",
                "for ; ; a { } => 62:0[63:1 64:2 65:2[50:3[5:3]] 40:4]",
                "for ; ; a <- b { } => 62:0[63:1 64:2 65:2[51:4[5:3 5:5]] 40:6]",
                "for ; ; a ++ { } => 62:0[63:1 64:2 65:2[52:4[5:3]] 40:5]",
                "for ; ; a -- { } => 62:0[63:1 64:2 65:2[53:4[5:3]] 40:5]",
                "for ; ; a , b = c , d { } => 62:0[63:1 64:2 65:2[54:6[13:3[5:3 5:5] 13:7[5:7 5:9]]] 40:10]",
                "for ; ; a >>= b { } => 62:0[63:1 64:2 65:2[55:4[5:3 5:5]] 40:6]",
                "for ; ; a # := b { }", "for ; ; a , b # := c { }", "for ; ; a , b # { }", "for ; ; # var a b { }",
                "for ; ; a = # range b { }");
    }

    private static void ranges() {
        HOLD.stmts("for [Exprs = | Names :=] range Expr Block "
                + "(child 66, range: Exprs or a 67 (:=) with Names, if any; Expr; then Block)",
                "for range a { } => 62:0[66:1[5:2] 40:3]",
                "for a = range b { } => 62:0[66:3[13:1[5:1] 5:4] 40:5]",
                "for a . b , 1 = range c { } => 62:0[66:7[13:1[82:2[5:1 5:3] 88:5] 5:8] 40:9]",
                "for a := range b { } => 62:0[66:3[67:2[12:1[5:1]] 5:4] 40:5]",
                "for a , b , c := range d + e { f } => "
                + "62:0[66:7[67:6[12:1[5:1 5:3 5:5]] 80:9[5:8 5:10]] 40:11[50:12[5:12]]]",
                "for range # { }", "for range a # , b { }", "for range a # ; ; { }", "for range # range a { }",
                "for a = range # { }", "for a := range # { }", "for a := range b # = c", "for a # range b { }",
                "for a , # range b { }", "for a , b # range c { }", "for a . b # := range c { }",
                "for 1 # := range a { }", "for a , b [ c ] # := range d { }", "for a += # range b { }",
                "for a <- # range b { }", "for a = b , # range c { }", "for a = # = range b", "for # = range b { }",
                "for # := range b { }", "for a = range b # ; ; { }", "for range a #");
    }

    private static void switches() {
        HOLD.stmts("Switch [68, switch]: switch [[Simple] ;] [Expr | Guard] '{' {..} '}' (child 61 as for If)",
                "switch { } => 68:0", "switch a { } => 68:0[5:1]", "switch ; { } => 68:0[61:1]",
                "switch a ; { } => 68:0[61:2[50:1[5:1]]]", "switch ; a { } => 68:0[61:1 5:2]",
                "switch a ; b { } => 68:0[61:2[50:1[5:1]] 5:3]",
                "switch a , b = c ; { } => 68:0[61:6[54:4[13:1[5:1 5:3] 13:5[5:5]]]]",
                "switch a := b ; c { } => 68:0[61:4[56:2[12:1[5:1] 13:3[5:3]]] 5:5]",
                "switch a ++ ; b { } => 68:0[61:3[52:2[5:1]] 5:4]",
                "switch # )", "switch # }", "switch a # b { }", "switch a , b # { }", "switch a := b # { }",
                "switch a = b # { }", "switch a ++ # { }", "switch a <- b # { }", "switch a *= b # { }",
                "switch ; # ; { }", "switch a ; b # ; { }", "switch ; a # = b { }", "switch ; a # , b { }",
                "switch ; a # ++ { }", "switch # range a { }", "switch # var a b ; { }", "switch a #", "switch ; #",
                "switch a { #", "switch a { } # { }");
        HOLD.stmts("'{' {case Exprs : Stmts | default : Stmts} '}'",
                "switch { case a : } => 68:0[71:2[13:3[5:3] 40:4]]", "switch { default : } => 68:0[72:2[40:3]]",
                "switch { default : case a : default : } => 68:0[72:2[40:3] 71:4[13:5[5:5] 40:6] 72:7[40:8]]",
                "switch { # a }", "switch { # ; }", "switch { case # : }", "switch { case a # }",
                "switch { case a # ; }",
                "switch { case a , # : }", "switch { case a # = b : }", "switch { case a # := b : }",
                "switch { default # a : }", "switch { default # }", "switch { case # default : }",
                "switch { case a : # else }", "switch { case a : b # c }", "switch { case a : ; # )",
                "switch { case a : 1 # : }", "switch { case # type : }");
    }

    private static void guards() {
        HOLD.stmts("Guard [69, type]: [NAME :=] Primary . '(' type ')' (Names, if there is one; the Primary)",
                "switch a . ( type ) { } => 68:0[69:4[5:1]]",
                "switch a := b . ( type ) { } => 68:0[69:6[12:1[5:1] 5:3]]",
                "switch a . b ( ) . ( type ) { } => 68:0[69:8[87:4[82:2[5:1 5:3]]]]",
                "switch ; a . ( type ) { } => 68:0[61:1 69:5[5:2]]",
                "switch a ; b := c . ( type ) { } => 68:0[61:2[50:1[5:1]] 69:8[12:3[5:3] 5:5]]",
                "switch a := b ; c . ( type ) { } => 68:0[61:4[56:2[12:1[5:1] 13:3[5:3]]] 69:8[5:5]]",
                "switch a . ( b ) . ( type ) { } => 68:0[69:8[83:2[5:1 5:4]]]",
                "switch ( a + b ) . ( type ) { } => 68:0[69:8[89:1[80:3[5:2 5:4]]]]",
                "switch a := <- chan b . ( type ) { } => 68:0[69:8[12:1[5:1] 25:3[5:5]]]",
                "switch a . ( type # . b", "switch a . ( type # , b", "switch a . ( type ) # ;",
                "switch a . ( type ) # + b",
                "switch a . ( type ) # . b { }", "switch a . ( type ) # ( ) { }", "switch a . ( type ) # := b { }",
                "switch a . ( type ) # = b { }", "switch a . ( type ) # , b { }", "switch - a . ( # type ) { }",
                "switch a + b . ( # type ) { }", "switch ( a . ( # type ) ) { }", "switch a = b . ( # type ) { }",
                "switch a , b := c . ( # type ) { }", "switch a := b , c . ( # type ) { }",
                "switch a := - b . ( # type ) { }", "switch a := b + c . ( # type ) { }",
                "switch a <- b . ( # type ) { }",
                "switch a . b # := c . ( type ) { }", "switch ; a . b # := c . ( type ) { }", "switch ; a := b # { }",
                "switch ; a := b # ;", "switch ; a := b # , c", "switch ; a := # - b . ( type ) { }",
                "switch ; a := <- # b . ( type ) { }", "switch ; a := b # + c . ( type ) { }",
                "switch ; a # , b := c . ( type ) { }", "switch a [ b . ( # type ) ] { }",
                "if a . ( # type ) { }", "for a . ( # type ) { }", "a . ( # type )", "select { case a . ( # type ) : }",
                "a := b . ( # type )", "for a := b . ( # type ) ; ; { }", "if a := b . ( # type ) ; c { }");
        HOLD.stmts("a Guard stands in the head of a Switch, and in no other place of an Expr",
                "switch a . ( type ) { } => 68:0[69:4[5:1]]", "a . ( b ) => 50:0[83:1[5:0 5:3]]",
                "go a . ( # type )", "defer a . ( # type )", "return a . ( # type )", "return a , b . ( # type )",
                "a , b . ( # type ) = c", "a = b . ( # type )", "a = b , c . ( # type )", "a += b . ( # type )",
                "a <- b . ( # type )", "a : b . ( # type )", "var a = b . ( # type )", "const a = b . ( # type )",
                "var a [ b . ( # type ) ] c", "if a ; b . ( # type ) { }", "for range a . ( # type ) { }",
                "for a = range b . ( # type ) { }", "for ; a . ( # type ) ; { }", "for ; ; a . ( # type ) { }",
                "for a = b . ( # type ) ; ; { }", "switch a { case b . ( # type ) : }", "a [ b . ( # type ) ]",
                "select { case a = b . ( # type ) : }", "select { case a <- b . ( # type ) : }",
                "switch a , b . ( # type ) = c ; { }", "switch a ( b . ( # type ) ) { }", "a [ : b . ( # type ) ]",
                "a [ : b : c . ( # type ) ]", "a ( b . ( # type ) )", "a ( b , c . ( # type ) )",
                "a { b . ( # type ) }",
                "a { b : c . ( # type ) }", "( a . ( # type ) )", "- a . ( # type )", "a + b . ( # type )");
        HOLD.stmts("in a Switch with a Guard Types stand in the place of Exprs: "
                + "Types [70, its first token]: Type {, Type}",
                "switch a . ( type ) { case b : } => 68:0[69:4[5:1] 71:7[70:8[5:8] 40:9]]",
                "switch a . ( type ) { case * b , [ ] c : default : } => "
                + "68:0[69:4[5:1] 71:7[70:8[26:8[5:9] 20:11[5:13]] 40:14] 72:15[40:16]]",
                "switch a . ( type ) { case ( b ) : c } => 68:0[69:4[5:1] 71:7[70:8[5:9] 40:11[50:12[5:12]]]]",
                "switch a . ( type ) { case func ( ) : } => 68:0[69:4[5:1] 71:7[70:8[29:8[14:9[15:9]]] 40:11]]",
                "switch a { case * b : } => 68:0[5:1 71:3[13:4[81:4[5:5]] 40:6]]",
                "switch a := b . ( type ) { case c : switch d { case 1 : } } => "
                + "68:0[69:6[12:1[5:1] 5:3] 71:9[70:10[5:10] 40:11[68:12[5:13 71:15[13:16[88:16] 40:17]]]]]",
                "switch a . ( type ) { case # 1 : }", "switch a . ( type ) { case # : }",
                "switch a . ( type ) { case b , # : }", "switch a . ( type ) { case b , # 1 : }",
                "switch a . ( type ) { case b # . c : }", "switch a . ( type ) { case b # ( ) : }",
                "switch a . ( type ) { case b # + c : }", "switch a . ( type ) { case # - b : }",
                "switch a . ( type ) { case b # { } : }", "switch a . ( type ) { case func ( ) # { } : }",
                "switch a . ( type ) { case [ # ... ] b : }", "switch a . ( type ) { default # b : }",
                "switch a . ( type ) { case b : case # 1 : }",
                "switch ; a . ( type ) { case * b : } => 68:0[61:1 69:5[5:2] 71:8[70:9[26:9[5:10]] 40:11]]",
                "switch ; a := b . ( type ) { case * c : } => "
                + "68:0[61:1 69:7[12:2[5:2] 5:4] 71:10[70:11[26:11[5:12]] 40:13]]",
                "switch ; a { case * b : } => 68:0[61:1 5:2 71:4[13:5[81:5[5:6]] 40:7]]",
                "switch ; { case 1 : } => 68:0[61:1 71:3[13:4[88:4] 40:5]]",
                "switch a := b . ( type ) { case # 1 : }", "switch ; a . ( type ) { case # 1 : }",
                "switch ; a := b . ( type ) { case # 1 : }", "switch ; a . ( b ) { case c # d : }");
    }

    private static void clauses() {
        HOLD.stmts("Clauses [71, case] and [72, default]: the Exprs or Types, then a 40 (the : ) with the statements",
                "switch { case a : b ; c case d , e : default : f } => 68:0[71:2[13:3[5:3] 40:4[50:5[5:5] 50:7[5:7]]] "
                + "71:8[13:9[5:9 5:11] 40:12] 72:13[40:14[50:15[5:15]]]]",
                "switch { case a : ; ; case b : c ; } => "
                + "68:0[71:2[13:3[5:3] 40:4] 71:7[13:8[5:8] 40:9[50:10[5:10]]]]",
                "switch { case a : b : } => 68:0[71:2[13:3[5:3] 40:4[41:6[5:5]]]]",
                "switch { case a : b : case c : } => 68:0[71:2[13:3[5:3] 40:4[41:6[5:5]]] 71:7[13:8[5:8] 40:9]]",
                "switch { case a : { } } => 68:0[71:2[13:3[5:3] 40:4[40:5]]]",
                "switch { case a { } # }", "switch { default : default # }",
                "switch { case a : # , }", "switch { case a : #", "switch { default : } # a",
                "switch { case a : { # case b : } }");
    }

    private static void selects() {
        HOLD.stmts("Select [73, select]: select '{' {case Comm : Stmts | default : Stmts} '}', "
                + "clauses 74 and 75 likewise",
                "select { } => 73:0", "select { default : } => 73:0[75:2[40:3]]",
                "select { case a : b ; c default : d } => "
                + "73:0[74:2[50:3[5:3] 40:4[50:5[5:5] 50:7[5:7]]] 75:8[40:9[50:10[5:10]]]]",
                "select { case a : case b : c : } => 73:0[74:2[50:3[5:3] 40:4] 74:5[50:6[5:6] 40:7[41:9[5:8]]]]",
                "select # ;", "select # a { }", "select # ; { }", "select #", "select { # a }", "select { # ; }",
                "select { case # : }", "select { case a # }", "select { case a # ; }", "select { default # a : }",
                "select { default : # ) }", "select { } # { }", "select { case a : b # b }", "select { case #");
        HOLD.stmts("Comm: Expr <- Expr [51] | Expr [50]",
                "select { case a <- b : } => 73:0[74:2[51:4[5:3 5:5] 40:6]]",
                "select { case a : } => 73:0[74:2[50:3[5:3] 40:4]]",
                "select { case <- a : } => 73:0[74:2[50:3[81:3[5:4]] 40:5]]",
                "select { case a { } : } => 73:0[74:2[50:3[91:4[5:3]] 40:6]]",
                "select { case a <- # : }", "select { case a <- b # , c : }", "select { case a <- b # <- c : }",
                "select { case a , b # <- c : }", "select { case a , b # : }", "select { case a # ++ : }",
                "select { case a # -- : }", "select { case a # += b : }", "select { case a # &^= b : }",
                "select { case # var a b : }", "select { case # return : }", "select { case # { } : }");
        HOLD.stmts("Comm: Exprs = Expr [54] | Names := Expr [56], the last two as Simple",
                "select { case a = b : } => 73:0[74:2[54:4[13:3[5:3] 13:5[5:5]] 40:6]]",
                "select { case a . b , 1 = <- c : } => "
                + "73:0[74:2[54:8[13:3[82:4[5:3 5:5] 88:7] 13:9[81:9[5:10]]] 40:11]]",
                "select { case a := b : } => 73:0[74:2[56:4[12:3[5:3] 13:5[5:5]] 40:6]]",
                "select { case a , b := <- c : } => 73:0[74:2[56:6[12:3[5:3 5:5] 13:7[81:7[5:8]]] 40:9]]",
                "select { case a = # : }", "select { case a = b # , c : }", "select { case a , b = c # , d : }",
                "select { case a := # : }", "select { case a := b # , c : }", "select { case a , b := c # , d : }",
                "select { case a . b # := c : }", "select { case a , 1 # := b : }", "select { case a = b # = c : }",
                "select { case a = # range b : }", "select { case a := # range b : }", "select { case a , # = b : }");
    }
}
