/**
 * Promise 4: at most 30 parts lie in one another. A row is a text, how many of its parts lie in one another, and
 * the token of the text at which it is so many first. In parts of another kind the text is put so deep that 30 are
 * just reached, and once more, so that this token is the error.
 */
public final class DepthTest {
    private static final Check CHECK = new Check();

    private static final Object[][] EXPRS = {
        {"( a )", 1, 0}, {"( ( a ) )", 2, 1}, {"a ( )", 1, 1}, {"a ( b ( ) )", 2, 3}, {"a ( ) ( )", 1, 1},
        {"a [ b ]", 1, 1}, {"a [ : ]", 1, 1}, {"a [ b : c [ d ] ]", 2, 5}, {"a . ( b )", 1, 2}, {"a . ( * b )", 2, 3},
        {"a { }", 1, 1}, {"a { { } }", 2, 2}, {"a { { } : { { } } }", 3, 6}, {"a { b : c { } }", 2, 5},
        {"- a", 1, 0}, {"! ^ a", 2, 1}, {"- a ( )", 2, 2}, {"- a . b [ c ]", 2, 4}, {"( - a ) ( )", 2, 1},
        {"[ ] a", 1, 0}, {"[ ] a { }", 1, 0}, {"[ ] * a", 2, 2}, {"[ ] ( a ) { }", 2, 2}, {"[ a ( ) ] b", 2, 2},
        {"[ 1 ] [ 1 ] a", 2, 3}, {"[ ... ] a { }", 1, 0}, {"[ ... ] * a { }", 2, 3}, {"[ ... ] a { { } }", 2, 5},
        {"[ ] a ( )", 1, 0}, {"[ ] a { { } }", 2, 4}, {"[ ] [ ] a { b ( ) }", 2, 2}, {"[ ] [ ] a { { { } } }", 3, 7},
        {"map [ a ] b", 2, 1}, {"map [ * a ] b", 3, 2}, {"map [ a ] * b", 2, 1}, {"map [ a ] * * b", 3, 5},
        {"chan a", 1, 0}, {"chan <- a", 1, 0}, {"chan <- chan a", 2, 2}, {"<- chan a", 1, 0}, {"<- a", 1, 0},
        {"<- <- chan a", 2, 1}, {"<- chan chan a", 2, 2}, {"chan ( a )", 2, 1},
        {"struct { }", 2, 1}, {"struct { a * b }", 3, 3}, {"struct { a b } { }", 2, 1},
        {"struct { } { { { } } }", 3, 5},
        {"interface { }", 2, 1}, {"interface { a ( ) }", 3, 3}, {"interface { a ( ) * b }", 3, 3},
        {"func ( ) a", 2, 1}, {"func ( ) * a", 2, 1}, {"func ( ) * * a", 3, 4}, {"func ( ) ( a )", 2, 1},
        {"func ( * a ) b", 3, 2}, {"func ( a , b * c ) ( )", 3, 5}, {"func ( ) func ( ) a", 3, 4},
        {"func ( ) { }", 2, 1}, {"func ( ) { { } }", 3, 4}, {"func ( ) { a : b }", 3, 5}, {"func ( ) { } ( )", 2, 1},
        {"func ( ) { } ( ( ( ( a ) ) ) )", 4, 8}, {"func ( ) { if a { } else { } }", 4, 9},
    };

    private static final Object[][] TYPES = {
        {"( a )", 1, 0}, {"( ( a ) )", 2, 1}, {"( * a )", 2, 1}, {"[ ] a", 1, 0}, {"[ 1 ] a", 1, 0},
        {"[ - 1 ] a", 2, 1},
        {"[ 1 ] * a", 2, 3}, {"map [ a ] b", 2, 1}, {"chan a", 1, 0}, {"chan <- a", 1, 0}, {"<- chan a", 1, 0},
        {"<- chan <- chan a", 2, 2}, {"struct { a , b c }", 2, 1}, {"struct { a ( b ) ; c ( ( d ) ) }", 4, 9},
        {"func ( )", 2, 1}, {"func ( a b ) c", 2, 1}, {"func ( ... [ ] a )", 3, 3}, {"func ( ) ( ( a ) )", 3, 4},
        {"interface { a ( ) ; b ( ) ( * c ) }", 4, 10},
    };

    private static final Object[][] STMTS = {
        {"{ }", 1, 0}, {"{ { } ; { { } } }", 3, 5}, {"a : b", 1, 1}, {"a : b : c", 2, 3}, {"a : ; b : c", 1, 1},
        {"a :", 1, 1},
        {"a : { }", 2, 2}, {"a : b ( )", 2, 3}, {"a : b ; c ( )", 1, 1}, {"if a { }", 1, 2}, {"if ( a ) { }", 1, 1},
        {"if a { } else { }", 2, 5}, {"if a { } else if b { }", 2, 7}, {"if a { } else if b { } else { }", 3, 10},
        {"if a { } else if b { } ; { { { } } }", 3, 12}, {"a : if b { } else { c : d }", 4, 9},
        {"if a { } else if ( ( b ) ) { }", 3, 7}, {"for { }", 1, 1}, {"for a ; ; ( ( b ) ) { }", 2, 5},
        {"for range a { b ( ) }", 2, 5}, {"switch { }", 1, 1}, {"switch { case ( a ) : }", 2, 3},
        {"switch { case a : { } }", 2, 5}, {"switch { case a : default : b : }", 2, 8},
        {"switch a . ( type ) { }", 1, 3},
        {"switch a . ( type ) { case * b : }", 2, 8}, {"select { }", 1, 1}, {"select { case a ( ) : }", 2, 4},
        {"var ( a b )", 1, 1}, {"var ( a * b )", 2, 3}, {"const ( a = ( 1 ) )", 2, 4}, {"type ( a b ; c * * d )", 3, 7},
        {"var a * b", 1, 2}, {"go a ( )", 1, 2}, {"a = b [ 1 ]", 1, 3}, {"return - a", 1, 1},
        {"a ( ) ; b [ ( c ) ]", 2, 6},
    };

    /** Behind package p ; with nothing around them: the parts of a function's head are few. */
    private static final Object[][] TOPS = {
        {"func f ( a $ b ) { } ;", 1}, {"func ( a $ b ) f ( ) { } ;", 1}, {"func ( $ b ) f ( ) { } ;", 1},
        {"func f ( ) $ b { } ;", 0}, {"func f ( ) ( $ b ) { } ;", 1}, {"var ( a $ b ) ;", 1}, {"type a $ b ;", 0},
        {"var a struct { b $ c } ;", 2}, {"func f ( ) { var a $ b } ;", 1}, {"func f ( ) { a . ( $ b ) } ;", 2},
        {"var a map [ $ b ] c ;", 2}, {"var a map [ b ] $ c ;", 1}, {"var a func ( $ b ) ;", 2},
        {"var a interface { b ( ) ; c ( d $ e ) } ;", 3},
    };

    public static void main(String[] args) {
        for (Object[] row : EXPRS) {
            deep("package p ; var a = ", "- ", row, "", " ;", 0);
            deep("package p ; var a = ", "( ", row, " )", " ;", 0);
            deep("package p ; var a = ", "a { ", row, " }", " ;", 0);
            deep("package p ; var a = ", "a + b ( ", row, " )", " ;", 0);
            deep("package p ; var a [ ", "c [ ", row, " ]", " ] b ;", 1);
        }
        for (Object[] row : TYPES) {
            deep("package p ; var a ", "* ", row, "", " ;", 0);
            deep("package p ; var a ", "[ ] ", row, "", " ;", 0);
            deep("package p ; var a ", "( ", row, " )", " ;", 0);
            deep("package p ; var a ", "chan <- ", row, "", " ;", 0);
        }
        for (Object[] row : STMTS) {
            deep(Source.IN_FUNCTION, "{ ", row, " }", " } ;", 1);
            deep(Source.IN_FUNCTION, "a : ", row, "", " } ;", 1);
            deep(Source.IN_FUNCTION, "if a { ", row, " }", " } ;", 1);
            deep(Source.IN_FUNCTION, "switch { default : ", row, " }", " } ;", 1);
        }
        for (Object[] row : TOPS) {
            stars((String) row[0], (Integer) row[1]);
        }
        partsEnd();
        errorsBefore();
        CHECK.end();
    }

    /** Each of the units is one part; already is how many there are around them. */
    private static void deep(String before, String unit, Object[] row, String unitEnd, String behind, int already) {
        String text = (String) row[0];
        int parts = (Integer) row[1];
        boolean endsLabels = unit.startsWith("a :") && text.contains(";");
        if (endsLabels) {
            return;
        }
        int fit = 30 - parts - already;
        TreeBuilder x = new TreeBuilder();
        String whole = before + unit.repeat(fit) + text + unitEnd.repeat(fit) + behind;
        CHECK.due(whole, Source.build(x, whole) > 0, true);
        String most = before + unit.repeat(fit + 1);
        int error = Source.kinds(most).length + (Integer) row[2];
        String deeper = most + text + unitEnd.repeat(fit + 1) + behind;
        CHECK.due(deeper, Source.build(x, deeper), -1 - error);
        CHECK.due("nodes", x.nodes(), 0);
    }

    private static void stars(String text, int already) {
        TreeBuilder x = new TreeBuilder();
        String whole = "package p ; " + text.replace("$ ", "* ".repeat(30 - already));
        CHECK.due(whole, Source.build(x, whole) > 0, true);
        String before = "package p ; " + text.substring(0, text.indexOf('$')) + "* ".repeat(30 - already);
        String deeper = "package p ; " + text.replace("$ ", "* ".repeat(31 - already));
        CHECK.due(deeper, Source.build(x, deeper), -1 - Source.kinds(before).length);
    }

    /** What has ended lies around nothing more, however long the program goes on. */
    private static void partsEnd() {
        String[] texts = {
            "- ".repeat(30) + "a + ( b )", "- ".repeat(30) + "a * " + "! ".repeat(30) + "b",
            "[ ] ".repeat(29) + "a ( ( b ) )", "( ".repeat(30) + "a" + " )".repeat(30) + " + ( b )",
            "[ ] ".repeat(30) + "a { " + "{ ".repeat(29) + "} ".repeat(29) + "}", "a" + " ( )".repeat(40),
            "a" + " [ ( b ) ]".repeat(40), "a" + " + - ( b )".repeat(40), "a { " + "{ } , ".repeat(40) + "}",
            "func ( ) { " + "if a { } ; ".repeat(40) + "}", "func ( ) { " + "a : b ; ".repeat(40) + "}",
            "func ( ) { " + "if a { } else { } ; ".repeat(40) + "}", "func ( ) { " + "a : ; ".repeat(40) + "}",
            "func ( ) { switch { " + "case ( a ) : b : ".repeat(40) + "} }", "func ( " + "* a , ".repeat(40) + ") b",
            "struct { " + "a * b ; ".repeat(40) + "}", "interface { " + "a ( ) ( * b ) ; ".repeat(40) + "}",
        };
        for (String text : texts) {
            TreeBuilder x = new TreeBuilder();
            CHECK.due(text, Source.build(x, "package p ; var a = " + text + " ;") > 0, true);
        }
    }

    private static void errorsBefore() {
        TreeBuilder x = new TreeBuilder();
        CHECK.due("an error before", Source.build(x, "package p ; var a = b c " + "( ".repeat(40)), -1 - 7);
        CHECK.due("no error before", Source.build(x, "package p ; var a = b " + "( ".repeat(40)), -1 - 37);
        CHECK.due("deep first", Source.build(x, "package p ; var a = " + "( ".repeat(31) + ") "), -1 - 36);
        CHECK.due("just not deep", Source.build(x, "package p ; var a = " + "( ".repeat(30) + ") "), -1 - 36);
        CHECK.due("elses", Source.build(x, Source.IN_FUNCTION + "if a { } else ".repeat(30)), -1 - 8 - 5 * 29 - 2);
    }
}
