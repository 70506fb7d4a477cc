import java.util.ArrayList;
import java.util.Arrays;
import java.util.List;

/**
 * Programs as texts: tokens with a space between them. A word that is none of the language's is a NAME,
 * 1 an INT, 1.0 a FLOAT, 'c' a RUNE, "s" a STRING.
 */
final class Source {
    static final List<String> WORDS = Arrays.asList(("break case chan const continue default defer else fallthrough"
            + " for func go goto if import interface map package range return select struct switch type"
            + " var").split(" "));
    static final List<String> SIGNS = Arrays.asList(("+ - * / % & | ^ << >> &^ += -= *= /= %= &= |= ^= <<= >>= &^="
            + " && || <- ++ -- == < > = ! ~ != <= >= := ... ( ) [ ] { } , ; . :").split(" "));
    /** Eight tokens: token 0 of what stands behind it is token 8 of the program. */
    static final String IN_FUNCTION = "package p ; func f ( ) { ";

    private Source() {
    }

    static int kind(String token) {
        if (WORDS.contains(token)) {
            return 10 + WORDS.indexOf(token);
        }
        if (SIGNS.contains(token)) {
            return 40 + SIGNS.indexOf(token);
        }
        char first = token.charAt(0);
        if (first == '\'') {
            return 4;
        }
        if (first == '"') {
            return 5;
        }
        if (!Character.isDigit(first)) {
            return 1;
        }
        return token.indexOf('.') < 0 ? 2 : 3;
    }

    static int[] kinds(String text) {
        List<Integer> kinds = new ArrayList<>();
        for (String token : text.trim().split("\\s+")) {
            if (!token.isEmpty()) {
                kinds.add(kind(token));
            }
        }
        return kinds.stream().mapToInt(Integer::intValue).toArray();
    }

    static String text(int[] kinds) {
        StringBuilder text = new StringBuilder();
        String[] plain = {"END", "a", "1", "1.0", "'c'", "\"s\""};
        for (int kind : kinds) {
            text.append(kind < 6 ? plain[kind] : kind < 40 ? WORDS.get(kind - 10) : SIGNS.get(kind - 40)).append(' ');
        }
        return text.toString().trim();
    }

    /** Eight tokens a call, so that large programs stay within the document's 512 calls. */
    static void give(TreeBuilder x, int[] kinds) {
        for (int i = 0; i < kinds.length; i += 8) {
            long word = 0;
            for (int j = i; j < kinds.length && j < i + 8; j++) {
                word = word << 8 | kinds[j];
            }
            if (!x.addAll(word)) {
                throw new IllegalArgumentException("refused: " + text(kinds));
            }
        }
    }

    static int build(TreeBuilder x, String text) {
        give(x, kinds(text));
        return x.build();
    }

    /** The node and all in it: what:token[children], the tokens counted from the one given. */
    static String dump(TreeBuilder x, int k, int from) {
        StringBuilder text = new StringBuilder();
        dump(x, k, from, text);
        return text.toString();
    }

    private static void dump(TreeBuilder x, int k, int from, StringBuilder text) {
        text.append(x.node(k, 0)).append(':').append(x.node(k, 1) - from);
        int children = x.node(k, 3);
        for (int i = 0; i < children; i++) {
            text.append(i == 0 ? '[' : ' ');
            dump(x, x.child(k, i), from, text);
        }
        if (children > 0) {
            text.append(']');
        }
    }

    /** The children of a node, each as dump shows it. */
    static String dumpChildren(TreeBuilder x, int k, int from) {
        StringBuilder text = new StringBuilder();
        for (int i = 0; i < x.node(k, 3); i++) {
            text.append(i == 0 ? "" : " ").append(dump(x, x.child(k, i), from));
        }
        return text.toString();
    }
}
