import java.util.ArrayList;
import java.util.Arrays;
import java.util.List;
import java.util.Random;

/**
 * A random program that is written from its tree, rule by rule, so that the tree which is due is known without
 * reading the tokens. It also keeps count of the parts that lie in one another.
 */
final class Program {
    /** A node that is due. */
    static final class Node {
        final int what;
        int token;
        final List<Node> children = new ArrayList<>();

        Node(int what, int token, Node... children) {
            this.what = what;
            this.token = token;
            this.children.addAll(Arrays.asList(children));
        }

        Node with(Node child) {
            if (child != null) {
                children.add(child);
            }
            return this;
        }
    }

    private static final String[] BINARY = {"||", "&&", "== != < <= > >=", "+ - | ^", "* / % << >> & &^"};

    final List<Integer> kinds = new ArrayList<>();
    final Node file;
    /** The first token at which more than 30 parts lie in one another, or -1. */
    int tooDeep = -1;
    int deepest;

    private final Random random;
    /** How much more may be written before all is kept as short as can be. */
    private int fuel;
    /** How often one thing is put into another, of 100 times. */
    private final int nesting;
    private int open;
    private boolean inHead;

    Program(long seed, int fuel, int nesting) {
        random = new Random(seed);
        this.fuel = fuel;
        this.nesting = nesting;
        file = file();
    }

    int[] tokens() {
        return kinds.stream().mapToInt(Integer::intValue).toArray();
    }

    private int here() {
        return kinds.size();
    }

    private int write(String token) {
        fuel--;
        kinds.add(Source.kind(token));
        return kinds.size() - 1;
    }

    private void openPart() {
        open++;
        deepest = Math.max(deepest, open);
        if (open > 30 && tooDeep < 0) {
            tooDeep = here();
        }
    }

    private int open(String token) {
        openPart();
        return write(token);
    }

    private void close(String token) {
        write(token);
        open--;
    }

    private boolean chance(int of100) {
        return random.nextInt(100) < of100;
    }

    private boolean nest() {
        return fuel > 0 && chance(nesting);
    }

    private String any(String tokens) {
        String[] each = tokens.split(" ");
        return each[random.nextInt(each.length)];
    }

    /** How many things a list has: few, so that programs are deep rather than wide. */
    private int some(int least) {
        int count = least;
        while (fuel > 0 && count < least + 4 && chance(40)) {
            count++;
        }
        return count;
    }

    private void maybe(String token) {
        if (chance(40)) {
            write(token);
        }
    }

    private Node name() {
        return new Node(5, write("a"));
    }

    private Node file() {
        Node node = new Node(1, write("package"), name());
        write(";");
        int tops = 1 + random.nextInt(3);
        for (int i = 0; i < tops; i++) {
            node.with(top());
            write(";");
        }
        return node;
    }

    private Node top() {
        if (chance(30)) {
            return decl();
        }
        int first = write("func");
        if (chance(70)) {
            return new Node(2, first, name(), signature(true), block());
        }
        Node receiver = new Node(4, open("("));
        if (chance(50)) {
            receiver.with(name());
        }
        receiver.with(type(true));
        close(")");
        return new Node(3, first, receiver, name(), signature(true), block());
    }

    private Node decl() {
        int sort = random.nextInt(3);
        Node node = new Node(6 + sort, write(new String[] {"const", "type", "var"}[sort]));
        if (!chance(30)) {
            return node.with(spec(sort));
        }
        boolean wasInHead = inHead;
        open("(");
        inHead = false;
        int count = some(0);
        for (int i = 0; i < count; i++) {
            node.with(spec(sort));
            if (i < count - 1) {
                write(";");
            }
        }
        if (count > 0) {
            maybe(";");
        }
        close(")");
        inHead = wasInHead;
        return node;
    }

    private Node spec(int sort) {
        Node node = new Node(9 + sort, here());
        if (sort == 1) {
            return node.with(name()).with(type(true));
        }
        node.with(names(some(1)));
        boolean withExprs = chance(50);
        boolean withType = sort == 2 ? !withExprs || chance(50) : withExprs && chance(50);
        if (withType) {
            node.with(type(true));
        }
        if (withExprs) {
            write("=");
            node.with(exprs(some(1)));
        }
        return node;
    }

    private Node names(int count) {
        Node node = new Node(12, here());
        for (int i = 0; i < count; i++) {
            if (i > 0) {
                write(",");
            }
            node.with(name());
        }
        return node;
    }

    private Node exprs(int count) {
        Node node = new Node(13, here());
        for (int i = 0; i < count; i++) {
            if (i > 0) {
                write(",");
            }
            node.with(expr());
        }
        return node;
    }

    /** With an open end only where no token can follow that would begin a result. */
    private Node signature(boolean mayBeOpen) {
        Node node = new Node(14, here(), params());
        int form = random.nextInt(3);
        if (form == 0 && mayBeOpen) {
            return node;
        }
        return node.with(form == 1 ? params() : type(mayBeOpen, "( <-"));
    }

    private Node params() {
        Node node = new Node(15, open("("));
        int count = some(0);
        boolean named = chance(50);
        boolean bareBefore = false;
        for (int i = 0; i < count; i++) {
            boolean last = i == count - 1;
            Node param = new Node(16, here());
            node.with(param);
            boolean bare = named && !last && chance(40);
            if (named) {
                param.with(name());
            }
            if (!bare) {
                if (last && !bareBefore && chance(30)) {
                    param.with(new Node(17, write("...")));
                }
                param.with(type(true));
            }
            bareBefore = bare;
            if (!last) {
                write(",");
            }
        }
        if (count > 0) {
            maybe(",");
        }
        close(")");
        return node;
    }

    private Node type(boolean mayBeOpen) {
        return type(mayBeOpen, "");
    }

    /** A Type that does not begin with one of these tokens. */
    private Node type(boolean mayBeOpen, String barred) {
        if (!nest()) {
            return name();
        }
        String first = any("( [] [ map chan <- * struct func interface");
        if (!barred.isEmpty() && Arrays.asList(barred.split(" ")).contains(first)) {
            return name();
        }
        openPart();
        Node node = type(first, mayBeOpen);
        open--;
        return node;
    }

    private Node type(String first, boolean mayBeOpen) {
        int token = write(first.equals("[]") ? "[" : first);
        Node node;
        switch (first) {
            case "(":
                node = type(true);
                write(")");
                return node;
            case "[]":
                write("]");
                return new Node(20, token, type(mayBeOpen));
            case "[":
                boolean wasInHead = inHead;
                inHead = false;
                node = new Node(21, token, expr());
                inHead = wasInHead;
                write("]");
                return node.with(type(mayBeOpen));
            case "map":
                open("[");
                node = new Node(22, token, type(true));
                close("]");
                return node.with(type(mayBeOpen));
            case "chan":
                if (chance(50)) {
                    write("<-");
                    return new Node(24, token, type(mayBeOpen));
                }
                return new Node(23, token, type(mayBeOpen, "<-"));
            case "<-":
                write("chan");
                return new Node(25, token, type(mayBeOpen));
            case "*":
                return new Node(26, token, type(mayBeOpen));
            case "func":
                return new Node(29, token, signature(mayBeOpen));
            default:
                return members(new Node(first.equals("struct") ? 27 : 30, token));
        }
    }

    private Node members(Node node) {
        open("{");
        int count = some(0);
        for (int i = 0; i < count; i++) {
            int first = here();
            if (node.what == 27) {
                node.with(new Node(28, first, names(some(1)), type(true)));
            } else {
                node.with(new Node(31, first, name(), signature(true)));
            }
            if (i < count - 1) {
                write(";");
            }
        }
        if (count > 0) {
            maybe(";");
        }
        close("}");
        return node;
    }

    private Node block() {
        Node node = new Node(40, open("{"));
        stmts(node);
        close("}");
        return node;
    }

    private void stmts(Node node) {
        int count = some(0);
        for (int i = 0; i < count; i++) {
            if (i > 0) {
                write(";");
            }
            if (!chance(10)) {
                node.with(stmt());
            }
        }
        maybe(";");
    }

    private Node stmt() {
        if (!nest()) {
            return chance(50) ? plainStmt() : simple(true);
        }
        switch (random.nextInt(8)) {
            case 0:
                return decl();
            case 1:
                Node label = name();
                Node labeled = new Node(41, open(":"), label);
                labeled.with(chance(80) ? stmt() : null);
                open--;
                return labeled;
            case 2:
                return block();
            case 3:
                return ifStmt();
            case 4:
                return switchStmt();
            case 5:
                return selectStmt();
            case 6:
                return forStmt();
            default:
                return simple(true);
        }
    }

    private Node plainStmt() {
        switch (random.nextInt(6)) {
            case 0:
                return new Node(42, write("go"), expr());
            case 1:
                return new Node(43, write("defer"), expr());
            case 2:
                return new Node(44, write("return")).with(chance(60) ? exprs(some(1)) : null);
            case 3:
                return new Node(45, write("break")).with(chance(50) ? name() : null);
            case 4:
                return new Node(46, write("continue")).with(chance(50) ? name() : null);
            default:
                return new Node(47, write("fallthrough"));
        }
    }

    private Node simple(boolean mayDefine) {
        int first = here();
        Node left;
        switch (random.nextInt(mayDefine ? 7 : 6)) {
            case 0:
                return new Node(50, first, expr());
            case 1:
                left = expr();
                return new Node(51, write("<-"), left, expr());
            case 2:
                left = expr();
                return new Node(52, write("++"), left);
            case 3:
                left = expr();
                return new Node(53, write("--"), left);
            case 4:
                left = exprs(some(1));
                return new Node(54, write("="), left, exprs(some(1)));
            case 5:
                left = expr();
                return new Node(55, write(any("+= -= *= /= %= &= |= ^= <<= >>= &^=")), left, expr());
            default:
                left = names(some(1));
                return new Node(56, write(":="), left, exprs(some(1)));
        }
    }

    private Node init() {
        if (chance(60)) {
            return null;
        }
        Node simple = chance(70) ? simple(true) : null;
        return new Node(61, write(";")).with(simple);
    }

    private Node ifStmt() {
        Node node = new Node(60, write("if"));
        boolean wasInHead = inHead;
        inHead = true;
        node.with(init()).with(expr());
        inHead = wasInHead;
        node.with(block());
        if (chance(50)) {
            open("else");
            node.with(chance(60) ? ifStmt() : block());
            open--;
        }
        return node;
    }

    private Node forStmt() {
        Node node = new Node(62, write("for"));
        boolean wasInHead = inHead;
        inHead = true;
        forHead(node, random.nextInt(6));
        inHead = wasInHead;
        return node.with(block());
    }

    private void forHead(Node node, int form) {
        Node left = null;
        if (form == 1) {
            node.with(expr());
        } else if (form == 2) {
            Node simple = chance(60) ? simple(true) : null;
            node.with(new Node(63, write(";")).with(simple));
            Node condition = chance(60) ? expr() : null;
            int second = write(";");
            node.with(new Node(64, second).with(condition));
            node.with(new Node(65, second).with(chance(60) ? simple(false) : null));
        } else if (form > 2) {
            if (form == 4) {
                left = exprs(some(1));
                write("=");
            } else if (form == 5) {
                Node names = names(some(1));
                left = new Node(67, write(":="), names);
            }
            node.with(new Node(66, write("range")).with(left).with(expr()));
        }
    }

    private Node switchStmt() {
        Node node = new Node(68, write("switch"));
        boolean wasInHead = inHead;
        inHead = true;
        node.with(init());
        boolean guarded = chance(40);
        if (guarded) {
            node.with(guard());
        } else if (chance(60)) {
            node.with(expr());
        }
        inHead = wasInHead;
        clauses(node, guarded ? 70 : 13);
        return node;
    }

    private Node guard() {
        Node names = null;
        if (chance(50)) {
            names = names(1);
            write(":=");
        }
        Node primary = primary();
        write(".");
        open("(");
        Node node = new Node(69, write("type")).with(names).with(primary);
        close(")");
        return node;
    }

    private Node selectStmt() {
        Node node = new Node(73, write("select"));
        clauses(node, 0);
        return node;
    }

    private void clauses(Node node, int form) {
        open("{");
        int count = some(0);
        for (int i = 0; i < count; i++) {
            boolean isCase = chance(80);
            int what = (form == 0 ? 74 : 71) + (isCase ? 0 : 1);
            Node clause = new Node(what, write(isCase ? "case" : "default"));
            if (isCase) {
                clause.with(form == 0 ? comm() : form == 13 ? exprs(some(1)) : types());
            }
            Node body = new Node(40, write(":"));
            stmts(body);
            node.with(clause.with(body));
        }
        close("}");
    }

    private Node types() {
        Node node = new Node(70, here());
        int count = some(1);
        for (int i = 0; i < count; i++) {
            if (i > 0) {
                write(",");
            }
            node.with(type(true));
        }
        return node;
    }

    private Node comm() {
        int first = here();
        Node left;
        switch (random.nextInt(4)) {
            case 0:
                left = expr();
                return new Node(51, write("<-"), left, expr());
            case 1:
                return new Node(50, first, expr());
            case 2:
                left = exprs(some(1));
                return new Node(54, write("="), left, exprs(1));
            default:
                left = names(some(1));
                return new Node(56, write(":="), left, exprs(1));
        }
    }

    private Node expr() {
        List<Node> sides = new ArrayList<>();
        List<Integer> signs = new ArrayList<>();
        List<Integer> bindings = new ArrayList<>();
        sides.add(unary());
        while (fuel > 0 && signs.size() < 9 && chance(35)) {
            int binding = random.nextInt(BINARY.length);
            bindings.add(binding);
            signs.add(write(any(BINARY[binding])));
            sides.add(unary());
        }
        return joined(sides, signs, bindings, 0, signs.size());
    }

    /** The sign that binds least, the last of such, holds all that stands on its two sides. */
    private static Node joined(List<Node> sides, List<Integer> signs, List<Integer> bindings, int from, int to) {
        if (from == to) {
            return sides.get(from);
        }
        int least = from;
        for (int i = from; i < to; i++) {
            if (bindings.get(i) <= bindings.get(least)) {
                least = i;
            }
        }
        return new Node(80, signs.get(least), joined(sides, signs, bindings, from, least),
                joined(sides, signs, bindings, least + 1, to));
    }

    private Node unary() {
        if (!chance(25) || !nest()) {
            return primary();
        }
        int sign = open(any("+ - ! ^ * & <-"));
        Node node = new Node(81, sign, unary());
        open--;
        boolean wouldBeType = kinds.get(sign) == Source.kind("<-") && kinds.get(sign + 1) == Source.kind("chan");
        if (wouldBeType) {
            kinds.set(sign, Source.kind("-"));
        }
        return node;
    }

    private Node primary() {
        Node node = operand();
        while (fuel > 0 && chance(30)) {
            node = behind(node);
        }
        return node;
    }

    private Node behind(Node former) {
        boolean wasInHead = inHead;
        int form = random.nextInt(5);
        int token = form < 2 ? write(".") : open(form == 4 ? "(" : "[");
        Node node;
        if (form == 0) {
            return new Node(82, token, former, name());
        }
        inHead = false;
        if (form == 1) {
            open("(");
            node = new Node(83, token, former, type(true));
            close(")");
        } else if (form == 2) {
            node = new Node(84, token, former, expr());
            close("]");
        } else if (form == 3) {
            node = sliced(new Node(85, token, former));
            close("]");
        } else {
            node = called(new Node(87, token, former));
            close(")");
        }
        inHead = wasInHead;
        return node;
    }

    private Node sliced(Node node) {
        node.with(chance(50) ? expr() : new Node(86, here()));
        write(":");
        int form = random.nextInt(3);
        if (form == 0) {
            return node.with(new Node(86, here()));
        }
        node.with(expr());
        if (form == 2) {
            write(":");
            node.with(expr());
        }
        return node;
    }

    private Node called(Node node) {
        int count = some(0);
        for (int i = 0; i < count; i++) {
            if (i > 0) {
                write(",");
            }
            node.with(expr());
        }
        if (count > 0) {
            if (chance(20)) {
                node.with(new Node(17, write("...")));
            }
            maybe(",");
        }
        return node;
    }

    private Node operand() {
        if (!nest()) {
            return chance(60) ? name() : new Node(88, write(any("1 1.0 'c' \"s\"")));
        }
        switch (random.nextInt(5)) {
            case 0:
                boolean wasInHead = inHead;
                Node paren = new Node(89, open("("));
                inHead = false;
                paren.with(expr());
                inHead = wasInHead;
                close(")");
                return paren;
            case 1:
                openPart();
                int first = write("func");
                Node function = new Node(90, first, signature(true), block());
                open--;
                return function;
            case 2:
                return typeOperand();
            default:
                return literal();
        }
    }

    /** In a head '{' may follow, and would make more of some Types: these are called there at once. */
    private Node typeOperand() {
        String first = any("[] [ map chan <- struct func interface");
        openPart();
        Node node = type(first, false);
        open--;
        boolean wouldGoOn = node.what <= 22 || node.what == 27 || node.what == 29;
        if (inHead && wouldGoOn) {
            node = new Node(87, open("("), node);
            close(")");
        }
        return node;
    }

    private Node literal() {
        Node type;
        String first = any("NAME [...] [] [ map struct");
        if (first.equals("NAME")) {
            type = name();
            if (inHead) {
                return type;
            }
        } else {
            openPart();
            if (first.equals("[...]")) {
                int token = write("[");
                type = new Node(21, token, new Node(17, write("...")));
                write("]");
                type.with(type(true));
            } else {
                type = type(first, true);
            }
            open--;
        }
        return elements(new Node(91, open("{"), type));
    }

    private Node elements(Node node) {
        boolean wasInHead = inHead;
        inHead = false;
        int count = some(0);
        for (int i = 0; i < count; i++) {
            Node element = new Node(92, here(), value());
            if (chance(40)) {
                write(":");
                element.with(value());
            }
            node.with(element);
            if (i < count - 1) {
                write(",");
            }
        }
        if (count > 0) {
            maybe(",");
        }
        close("}");
        inHead = wasInHead;
        return node;
    }

    private Node value() {
        return nest() && chance(40) ? elements(new Node(93, open("{"))) : expr();
    }
}
