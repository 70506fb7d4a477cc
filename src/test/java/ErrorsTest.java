/**
 * Promise 4: the first token that no program has there. In a text the error stands behind a # (which is no
 * token); at its end, # says that the END is the error.
 */
public final class ErrorsTest {
    private static final Check CHECK = new Check();

    private static final String[] FILES = {
        "#", "# ;", "# goto", "# func", "package #", "package # ;", "package p #", "package p # func",
        "package p ; # ;", "package p ; # package p ;", "package p ; # import \"s\" ;", "package p ; # a ;",
        "package p ; var a b #", "package p ; func f ( ) { } #", "package p ; func f ( ) { } # func",
        "package p ; func f ( ) { #", "package p ; func f ( ) { } ; # }", "package p ; # if", "package p ; # ~",
    };

    /** Behind package p ; */
    private static final String[] TOPS = {
        "const # ;", "const a b # ;", "const a # := 1 ;", "const a , # ;", "const a = # ;", "const a = 1 , # ;",
        "const ( # ; ) ;", "const ( a a # a ) ;", "const ( a ; # ; ) ;", "const ( a b # ) ;", "const a # . b ;",
        "const ( # 1 ) ;", "const a = 1 # = 2 ;", "const ( a ; b #", "type a # = b ;", "type a # ;", "type a # , b",
        "type ( a # , b c ) ;", "type a b # . c ;", "type ( a b # , ) ;", "var a # ;", "var # = 1 ;",
        "var a , b # ;", "var a b # , c ;", "var a b # := 1 ;", "var ( a # ) ;", "func # { }", "func f # { }",
        "func f ( ) # ;", "func f ( ) a # ;", "func f ( ) # <- chan a { } ;", "func f ( ) # 1",
        "func f ( ) ( a ) # a { }", "func f ( ) { } # ( ) ;", "func ( # ) f ( ) { } ;",
        "func ( a # , b c ) f ( ) { } ;", "func ( a # ... b ) f ( ) { } ;", "func ( * a # a ) f ( ) { } ;",
        "func ( a b # c ) f ( ) { } ;", "func ( a ) # ( ) { } ;", "func ( # ... a ) f", "func f # . a",
    };

    /** The Params of a function, behind package p ; func f */
    private static final String[] PARAMS = {
        "# a", "( # , )", "( a # . b )", "( a , # , )", "( a b , # [ ] c )", "( a b , c # )", "( a b , c , # )",
        "( a b , c , # * d )", "( a b , # ... c )", "( a b , c , d # )", "( a , b c , d # )", "( [ ] a , b # c )",
        "( a , * b , c # d )", "( a , b # ... c )", "( a b , c , d # ... e )", "( ... a , # b )",
        "( ... a , # ... b )", "( a ... b , # c d )", "( ... # )", "( a ... # )", "( a ... b # c )",
        "( ... a # b )", "( a , ... b , # c", "( a b # c )", "( a b # ... c )", "( # 1 )", "( a # 1 )",
        "( a # := b )", "( a # ; b )", "( [ ] a # ... b )", "( a ( b ) # ( c ) )", "( a b # ] )",
        "( a ... b , ) ( c ... # ... d )",
    };

    /** Behind package p ; type t */
    private static final String[] TYPES = {
        "#", "# ;", "# 1", "( # )", "( a # , b )", "[ # ; ]", "[ ] # ;", "[ 1 # ;", "[ 1 ] # ;", "[ # ... ] a",
        "[ 1 # : 2 ] a", "[ 1 # , 2 ] a", "map # a", "map [ # ]", "map [ a # , ]", "map [ a ] # ;", "map [ # 1 ] a",
        "chan # ;", "chan <- # ;", "<- # a", "<- # <- chan a", "<- chan # ;", "chan <- <- # a", "* # ;", "# & a",
        "struct # ;", "struct { # ; }", "struct { a # }", "struct { a # ; }", "struct { a , # ;",
        "struct { a , b # }", "struct { a b # c }", "struct { a b # , c }", "struct { # * a }",
        "struct { a b ; # ; }", "struct { # ( a ) }", "func # a", "func ( ) # { }", "func ( ) a # { }",
        "func ( ) ( a ) # b", "func ( ) # <- chan a", "func # f ( )", "interface # ;", "interface { # ; }",
        "interface { a # ; }", "interface { a # . b }", "interface { a # , b ( ) }", "interface { a ( ) # { } }",
        "interface { a ( ) b # c }", "interface { # interface { } }", "a # b", "a # [ ]", "a # { }", "a # ( )",
        "( a ) # b", "# const",
    };

    /** In the Block of a function, as all that follow. */
    private static final String[] STMTS = {
        "# )", "# ]", "# :", "# ,", "# =", "# . a", "# else", "# case a :", "# default :", "# goto a", "# import",
        "# ~ a", "# package", "# range a", "# ... a", "# := a", "# ++", "# / a", "a # a", "a # 1", "a , # ;",
        "a , b # ;", "a , b # }", "a , b # ++", "a , b # += c", "a , b # <- c", "a , b + # ;", "a , b . c # := d",
        "a . b # := c", "a ( ) # := b", "( a ) # := b", "a , 1 # := b", "1 # := a", "a { } # := b", "- a # := b",
        "a + b # := c", "a := # ;", "a := b # = c", "a = b # = c", "a = b # := c", "a = # ;", "a = b , # ;",
        "a += b # , c", "a += b # += c", "a ++ # ++", "a ++ # + b", "a <- b # <- c", "a <- b # , c", "a <- # ;",
        "a -- # ( )", "a = # range b", "a := # range b", "a # ~ b", "a : # )", "a : 1 # : b", "1 # : a",
        "a . b # : c", "( a ) # : b", "a : # else", "go # ;", "go a # , b", "go a # = b", "go # go a",
        "defer # { }", "defer a # ++", "return a , # ;", "return a # = b", "return # return", "return a # := b",
        "return a # b", "break # 1", "break a # . b", "break a # , b", "continue # ( a )", "continue a # b",
        "fallthrough # a", "fallthrough # fallthrough", "{ } # { }", "{ } # a", "{ # ) }", "{ } # else { }",
        "{ 1 # { } }", "var a b # c", "const a ( # )", "var ( a b ) # = c", "type a b # = c", "func # f ( ) { }",
        "func ( ) { } # { }",
    };

    private static final String[] HEADS = {
        "if # { }", "if ; # { }", "if a ; # { }", "if a ; b # b", "if a , b # { }", "if a := b # { }",
        "if a = b # { }", "if a ++ # { }", "if a <- b # { }", "if a += b # { }", "if a ; b # ; c { }",
        "if a ; b # = c", "if a ; b # := c", "if a ; b # , c", "if a ; b # ++", "if a # : b", "if a { } # { }",
        "if a { } # if", "if a { } else # ;", "if a { } else # a", "if a { } else # for { }",
        "if a { } else { } # else { }", "if a { } ; # else { }", "if a { } # a", "if a # a { }",
        "if # var a b ; c { }", "if a := # range b { }", "if a = # range b { }", "if # range a { }",
        "if a . ( # type ) { }", "if # return", "for # )", "for ; # { }", "for a ; # { }", "for a ; b # { }",
        "for ; ; # ; { }", "for ; ; a # ; { }", "for a := b # { }", "for a = b # { }", "for a ++ # { }",
        "for a , b # { }", "for a , b # ; ; { }", "for ; ; a # := b { }", "for ; ; a , b # := c { }",
        "for ; ; a , b # { }", "for ; a # = b ; { }", "for ; a # := b ; { }", "for ; ; # range a { }",
        "for ; # range a { }", "for a += # range b { }", "for a # range b { }", "for a , # range b { }",
        "for a . b # := range c { }", "for a , 1 # := range c { }", "for a = b , # range c { }",
        "for a := b , # range c { }", "for range # { }", "for range a # , b { }", "for range a # ; ; { }",
        "for range # range a { }", "for a := range b # = c { }", "for range a { } # else { }",
        "for a = range # { }", "for a = range b # ; ; { }", "for ; ; a = # range b { }", "for a <- # range b { }",
        "for { } # { }", "for # var a b ; ; { }", "for a . ( # type ) { }", "switch # )", "switch a # b { }",
        "switch a , b # { }", "switch a := b # { }", "switch a = b # { }", "switch a ++ # { }", "switch ; # ; { }",
        "switch a ; b # ; { }", "switch a ; b # = c", "switch a ; b # , c", "switch a ; b . c # := d",
        "switch a ; b := c # { }", "switch ; a := # - b", "switch ; a := <- # b", "switch ; a := b # + c",
        "switch ; a := b # , c", "switch ; a := b # ;", "switch ; a := # ) b", "switch ; a := b . ( c ) # { }",
        "switch a . ( type # . b", "switch a . ( type ) # ;", "switch a . ( type ) # + b { }",
        "switch a . ( type ) # . b { }", "switch a . ( type ) # ( ) { }", "switch a . ( type ) # , b { }",
        "switch a . ( type ) # = b { }", "switch a . ( type ) # := b { }", "switch - a . ( # type ) { }",
        "switch a + b . ( # type ) { }", "switch ( a . ( # type ) ) { }", "switch a , b := c . ( # type ) { }",
        "switch a := b , c . ( # type ) { }", "switch a = b . ( # type ) { }", "switch a [ b . ( # type",
        "switch a := - b . ( # type ) { }", "switch a := b + c . ( # type ) { }", "switch a , b . ( # type ) { }",
        "switch a <- b . ( # type ) { }", "switch a += b . ( # type ) { }", "switch a . b # := c",
        "switch a := b . ( type ) # ; { }", "switch # range a { }", "a . ( # type )", "a = b . ( # type )",
        "return a . ( # type )", "select { case a . ( # type ) : }", "select # a { }", "select # ; { }",
        "select # ( )",
        "var a [ b . ( # type ) ] c", "go a . ( # type )", "a , b . ( # type ) = c", "a <- b . ( # type )",
        "if a ; b . ( # type ) { }", "for range a . ( # type ) { }", "for ; a . ( # type ) ; { }",
        "for ; ; a . ( # type ) { }", "for a = b . ( # type ) ; ; { }", "a [ b . ( # type ) ]",
        "a [ : b . ( # type ) ]", "a [ : b : c . ( # type ) ]", "a ( b . ( # type ) )", "a { b . ( # type ) }",
        "( a . ( # type ) )", "switch a { case b . ( # type ) : }", "switch a ( b . ( # type ) ) { }",
        "switch func ( ) { a . ( # type ) } { }", "switch ; a # , b := c . ( type ) { }",
    };

    private static final String[] CLAUSES = {
        "switch a { # b }", "switch a { # ; }", "switch a { case # : }", "switch a { case b # }",
        "switch a { case b , # : }", "switch a { case b # ; }", "switch a { case b # := c : }",
        "switch a { case b # = c : }", "switch a { default # a : }", "switch a { case b : # ) }",
        "switch a { case b : 1 # : }", "switch a { case b : c # c }", "switch a { case * # : }",
        "switch a { case # type : }", "switch a { default : } # else", "switch a . ( type ) { case # 1 : }",
        "switch a . ( type ) { case b # . c : }", "switch a . ( type ) { case # - b : }",
        "switch a . ( type ) { case b # ( ) : }", "switch a . ( type ) { case b # + c : }",
        "switch a . ( type ) { case # : }", "switch a . ( type ) { case b , # : }",
        "switch a . ( type ) { case b # { } : }", "switch a . ( type ) { case func ( ) # { } : }",
        "switch a . ( type ) { case [ # ... ] b : }", "select { # a }", "select { case # : }",
        "select { case a # ++ : }", "select { case a # += b : }", "select { case a , b # : }",
        "select { case a = b # , c : }", "select { case a := b # , c : }", "select { case a <- b # , c : }",
        "select { case a . b # := c : }", "select { case a , 1 # := c : }", "select { case # ; }",
        "select { case a # ; }", "select { case a := # range b : }", "select { default # ; }",
        "select { case # return : }", "select { case a = b # = c : }", "select { case # var a b : }",
        "select { case a <- # : }",
    };

    private static final String[] EXPRS = {
        "a = # ;", "a = b + # ;", "a = b # ! c", "a = b # <- c", "a = - # ;", "a = # ++ b", "a = # ~ b",
        "a = # / b", "a = ( # )", "a = ( b # , c )", "a = ( b # ;", "a = ( b # = c )", "a = ( b # <- c )",
        "a = b . # ;", "a = b . # 1", "a = b . ( # )", "a = b . ( # 1 )", "a = b . ( c # . d )",
        "a = b . ( c # , d )", "a = b . ( c # + d )", "a = b [ # ]", "a = b [ c # , d ]", "a = b [ c # ; ]",
        "a = b [ : # : ]", "a = b [ c : # : d ]", "a = b [ c : d : # ]", "a = b [ c : d : e # : f ]",
        "a = b [ : c # ) ]", "a = b [ c # ... ]", "a = b [ # ... ]", "a = b ( # , )", "a = b ( c # ; )",
        "a = b ( c , # , )", "a = b ( # ... )", "a = b ( c ... # c )", "a = b ( c ... # ... )",
        "a = b ( c ... , # d )", "a = b ( c ... , # , )", "a = b ( c # : d )", "a = b ( c # = d )",
        "a = b ( c # := d )", "a = b ( c , # ... )", "a = # range b", "a = # type b", "a = # if b", "a = func # ;",
        "a = func # f ( )", "a = func ( ) { } # { }", "a = func ( ) b . # 1", "a = func ( ) { # ) }",
        "a = func ( ) { } # a", "a = [ ] # ;", "a = [ b ] # ;", "a = [ b # ;", "a = [ # : ] b", "a = [ ... # b",
        "a = [ ... ] # { }", "a = [ ... ] b # ;", "a = [ ... ] b # ( c )", "a = [ ... ] b # . c",
        "a = [ ... ] b # )", "a = [ ] [ # ... ] b { }", "a = ( [ ... ] b # )", "a = chan # ;", "a = chan b # { }",
        "a = <- # ;", "a = <- chan # ;", "a = map # b", "a = interface { } # { }", "a = struct # ;",
        "a = ( b ) # { }", "a = ( [ ] b ) # { }", "a = b . c # { }", "a = b ( ) # { }", "a = b [ c ] # { }",
        "a = 1 # { }", "a = b { } # { }", "a = chan [ ] b # { }", "a = * b # ~ { }", "a = [ ] b { } # { }",
        "a = # { }", "a = b == # = c", "a = b # ! = c", "a = b && # && c", "a = b # else", "a = # const",
        "a = b # goto", "a = <- # ; b", "a = b # ++",
    };

    private static final String[] LITERALS = {
        "a = b { # , }", "a = b { c # ; }", "a = b { c , # , }", "a = b { c : # }", "a = b { c : d # : e }",
        "a = b { c # d }", "a = b { { } # { } }", "a = b { { c : d } # ; }", "a = b { { # , } }",
        "a = b { c # = d }", "a = b { c # ... }", "a = b { # : c }", "a = b { { } : { } # : }", "a = b { c # )",
        "a = b { # )", "a = b { { } # . c }", "if a { } # . b { }", "if a { } # == b { }",
        "if a == b { } # == c { }", "for a := b # { }", "for a = range b { } # { }", "switch a { # b }",
        "switch a := b # { c }", "if a . b # c { }", "if ( a { } ) ; # { }", "if - a { } # + b",
        "if a ; b { } # . c { }", "for ; ; a = b { } # { }", "for ; ; a { } # { }", "if [ ] a { } ; # { }",
        "if [ ] a { b # ; }", "if map [ a ] b { # ; }", "if struct { } { # ; } { }", "if struct { } ( ) ; # { }",
        "if func ( ) { a # { } } ; b { }", "if a , b = c # { }", "switch a { } # { }",
        "if func ( ) { b = a # { } } ( ) { }", "if func ( ) { if b { } ; b = a # { } } ( ) { }",
    };

    public static void main(String[] args) {
        errors("", FILES, "");
        errors("package p ; ", TOPS, "");
        errors("package p ; func f ", PARAMS, "");
        errors("package p ; type t ", TYPES, "");
        String[][] inFunction = {STMTS, HEADS, CLAUSES, EXPRS, LITERALS};
        for (String[] texts : inFunction) {
            errors(Source.IN_FUNCTION, texts, " } ;");
        }
        CHECK.end();
    }

    private static void errors(String before, String[] texts, String behind) {
        for (String text : texts) {
            error(before + text + behind);
        }
    }

    private static void error(String text) {
        int mark = text.indexOf('#');
        int token = Source.kinds(text.substring(0, mark)).length;
        TreeBuilder x = new TreeBuilder();
        CHECK.due(text, Source.build(x, text.replace("#", "")), -1 - token);
        CHECK.due(text + ": nodes", x.nodes(), 0);
    }
}
