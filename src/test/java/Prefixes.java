import java.util.ArrayList;
import java.util.BitSet;
import java.util.HashMap;
import java.util.HashSet;
import java.util.List;
import java.util.Map;
import java.util.Set;

/**
 * The document's grammar as plain productions, and Earley's way of reading them: it keeps every reading that is
 * still open, so it tells all tokens that some program has behind the ones given. It knows nothing of the class
 * under test, and no limit on the parts that lie in one another.
 */
final class Prefixes {
    static final int END = 0;

    /**
     * One production a line. @ stands for 0 (a Name and '{' make a Literal) and 1 (they make none). A symbol that
     * begins with ~ is nothing, but the next token must not be one of the kind that it names.
     */
    private static final String GRAMMAR = String.join("\n",
            "File > package NAME ; Tops",
            "Tops >", "Tops > Tops Top ;",
            "Top > Decl0", "Top > func NAME Signature Block0",
            "Top > func ( Type ) NAME Signature Block0", "Top > func ( NAME Type ) NAME Signature Block0",
            "Decl@ > const Const@", "Decl@ > const ( Consts )",
            "Decl@ > type TypeSpec", "Decl@ > type ( TypeSpecs )",
            "Decl@ > var Var@", "Decl@ > var ( Vars )",
            "Consts >", "Consts > ConstList", "Consts > ConstList ;",
            "ConstList > Const0", "ConstList > ConstList ; Const0",
            "TypeSpecs >", "TypeSpecs > TypeSpecList", "TypeSpecs > TypeSpecList ;",
            "TypeSpecList > TypeSpec", "TypeSpecList > TypeSpecList ; TypeSpec",
            "Vars >", "Vars > VarList", "Vars > VarList ;",
            "VarList > Var0", "VarList > VarList ; Var0",
            "Const@ > Names", "Const@ > Names = Exprs@", "Const@ > Names Type = Exprs@",
            "TypeSpec > NAME Type",
            "Var@ > Names Type", "Var@ > Names Type = Exprs@", "Var@ > Names = Exprs@",
            "Names > NAME", "Names > Names , NAME",
            "Exprs@ > Expr@", "Exprs@ > Exprs@ , Expr@",

            "Signature > Params ~result", "Signature > Params Params", "Signature > Params NAME",
            "Signature > Params TypeX",
            "Params > ( )", "Params > ( ParamList )", "Params > ( ParamList , )",
            "ParamList > Unnamed", "ParamList > Unnamed , ... Type", "ParamList > ... Type",
            "ParamList > Named", "ParamList > Named , NAME ... Type", "ParamList > NAME ... Type",
            "Unnamed > Type", "Unnamed > Unnamed , Type",
            "Named > NamedGroup", "Named > Named , NamedGroup",
            "NamedGroup > NAME Type", "NamedGroup > NAME , NamedGroup",
            "Type > NAME", "Type > TypeX", "Type > ReceiveType",
            "TypeX > ( Type )", "TypeX > LiteralType", "TypeX > ChanType", "TypeX > * Type",
            "TypeX > func Signature", "TypeX > InterfaceType",
            "LiteralType > [ ] Type", "LiteralType > [ Expr0 ] Type", "LiteralType > map [ Type ] Type",
            "LiteralType > struct { Fields }",
            "ChanType > chan <- Type", "ChanType > chan ~arrow Type",
            "ReceiveType > <- chan Type",
            "InterfaceType > interface { Methods }",
            "Fields >", "Fields > FieldList", "Fields > FieldList ;",
            "FieldList > Names Type", "FieldList > FieldList ; Names Type",
            "Methods >", "Methods > MethodList", "Methods > MethodList ;",
            "MethodList > NAME Signature", "MethodList > MethodList ; NAME Signature",

            "Block@ > { Stmts@ }",
            "Stmts@ > OptStmt@", "Stmts@ > Stmts@ ; OptStmt@",
            "OptStmt@ >", "OptStmt@ > Stmt@",
            "Stmt@ > Decl@", "Stmt@ > NAME : OptStmt@", "Stmt@ > Simple@", "Stmt@ > go Expr@", "Stmt@ > defer Expr@",
            "Stmt@ > return", "Stmt@ > return Exprs@", "Stmt@ > break", "Stmt@ > break NAME", "Stmt@ > continue",
            "Stmt@ > continue NAME", "Stmt@ > fallthrough", "Stmt@ > Block@", "Stmt@ > If@", "Stmt@ > Switch@",
            "Stmt@ > Select@", "Stmt@ > For@",
            "Simple@ > Post@", "Simple@ > Names := Exprs@",
            "Post@ > Expr@", "Post@ > Expr@ <- Expr@", "Post@ > Expr@ ++", "Post@ > Expr@ --",
            "Post@ > Exprs@ = Exprs@", "Post@ > Expr@ OpAssign Expr@",
            "OpAssign > +=", "OpAssign > -=", "OpAssign > *=", "OpAssign > /=", "OpAssign > %=", "OpAssign > &=",
            "OpAssign > |=", "OpAssign > ^=", "OpAssign > <<=", "OpAssign > >>=", "OpAssign > &^=",
            "If@ > if IfHead Block@", "If@ > if IfHead Block@ else If@", "If@ > if IfHead Block@ else Block@",
            "IfHead > Expr1", "IfHead > ; Expr1", "IfHead > Simple1 ; Expr1",
            "For@ > for Block@", "For@ > for Expr1 Block@", "For@ > for OptSimple ; OptExpr1 ; OptPost Block@",
            "For@ > for range Expr1 Block@", "For@ > for Exprs1 = range Expr1 Block@",
            "For@ > for Names := range Expr1 Block@",
            "OptSimple >", "OptSimple > Simple1", "OptPost >", "OptPost > Post1", "OptExpr@ >", "OptExpr@ > Expr@",
            "Switch@ > switch SwitchInit OptExpr1 { ExprClauses@ }",
            "Switch@ > switch SwitchInit Guard { TypeClauses@ }",
            "SwitchInit >", "SwitchInit > ;", "SwitchInit > Simple1 ;",
            "Guard > Primary1 . ( type )", "Guard > NAME := Primary1 . ( type )",
            "ExprClauses@ >", "ExprClauses@ > ExprClauses@ case Exprs@ : Stmts@",
            "ExprClauses@ > ExprClauses@ default : Stmts@",
            "TypeClauses@ >", "TypeClauses@ > TypeClauses@ case Types : Stmts@",
            "TypeClauses@ > TypeClauses@ default : Stmts@",
            "Types > Type", "Types > Types , Type",
            "Select@ > select { CommClauses@ }",
            "CommClauses@ >", "CommClauses@ > CommClauses@ case Comm@ : Stmts@",
            "CommClauses@ > CommClauses@ default : Stmts@",
            "Comm@ > Expr@ <- Expr@", "Comm@ > Expr@", "Comm@ > Exprs@ = Expr@", "Comm@ > Names := Expr@",

            "Expr@ > Unary@", "Expr@ > Expr@ Binary Unary@",
            "Binary > ||", "Binary > &&", "Binary > ==", "Binary > !=", "Binary > <", "Binary > <=", "Binary > >",
            "Binary > >=", "Binary > +", "Binary > -", "Binary > |", "Binary > ^", "Binary > *", "Binary > /",
            "Binary > %", "Binary > <<", "Binary > >>", "Binary > &", "Binary > &^",
            "Unary@ > + Unary@", "Unary@ > - Unary@", "Unary@ > ! Unary@", "Unary@ > ^ Unary@", "Unary@ > * Unary@",
            "Unary@ > & Unary@", "Unary@ > <- ~chan Unary@", "Unary@ > Primary@",
            "Primary@ > Operand@", "Primary@ > Primary@ . NAME", "Primary@ > Primary@ . ( Type )",
            "Primary@ > Primary@ [ Expr0 ]", "Primary@ > Primary@ [ OptExpr0 : OptExpr0 ]",
            "Primary@ > Primary@ [ OptExpr0 : Expr0 : Expr0 ]",
            "Primary@ > Primary@ ( )", "Primary@ > Primary@ ( Exprs0 )", "Primary@ > Primary@ ( Exprs0 , )",
            "Primary@ > Primary@ ( Exprs0 ... )", "Primary@ > Primary@ ( Exprs0 ... , )",
            "Operand@ > INT", "Operand@ > FLOAT", "Operand@ > RUNE", "Operand@ > STRING", "Operand@ > NAME",
            "Operand@ > ( Expr0 )", "Operand@ > func Signature Block@", "Operand@ > func Signature ~brace",
            "Operand@ > LiteralType ~brace", "Operand@ > ChanType", "Operand@ > ReceiveType",
            "Operand@ > InterfaceType",
            "Operand0 > NAME Braces", "Operand@ > LiteralType Braces", "Operand@ > [ ... ] Type Braces",
            "Braces > { }", "Braces > { Elements }", "Braces > { Elements , }",
            "Elements > Element", "Elements > Elements , Element",
            "Element > Value", "Element > Value : Value",
            "Value > Expr0", "Value > Braces");

    /** The tokens that each ~ symbol does not let pass, by its name. */
    private static final Map<String, String> BARRED = Map.of("~result", "NAME ( [ map chan * struct func interface",
            "~arrow", "<-", "~chan", "chan", "~brace", "{");

    /** Symbols: a token's kind; from FIRST_RULE on a rule; from FIRST_BAR on a ~ symbol. */
    private static final int FIRST_RULE = 100;
    private static final int FIRST_BAR = 1000;

    private static final Map<String, Integer> RULES = new HashMap<>();
    private static final List<String> BARS = new ArrayList<>(BARRED.keySet());
    private static final List<BitSet> BARRED_KINDS = new ArrayList<>();
    private static final List<int[]> BODIES = new ArrayList<>();
    private static final List<Integer> HEADS = new ArrayList<>();
    private static final List<List<Integer>> PRODUCTIONS = new ArrayList<>();
    private static final int[] KINDS;

    static {
        for (String bar : BARS) {
            BitSet kinds = new BitSet();
            for (String token : BARRED.get(bar).split(" ")) {
                kinds.set(kindOf(token));
            }
            BARRED_KINDS.add(kinds);
        }
        for (String line : GRAMMAR.split("\n")) {
            if (line.indexOf('@') < 0) {
                production(line);
            } else {
                production(line.replace('@', '0'));
                production(line.replace('@', '1'));
            }
        }
        for (Map.Entry<String, Integer> rule : RULES.entrySet()) {
            if (PRODUCTIONS.get(rule.getValue()).isEmpty()) {
                throw new IllegalStateException("no production of " + rule.getKey());
            }
        }
        KINDS = new int[78];
        int n = 0;
        for (int kind = 1; kind <= 87; kind++) {
            if (kind <= 5 || kind >= 10 && kind <= 34 || kind >= 40) {
                KINDS[n++] = kind;
            }
        }
    }

    static int[] allKinds() {
        return KINDS.clone();
    }

    private static int kindOf(String token) {
        List<String> plain = List.of("NAME", "INT", "FLOAT", "RUNE", "STRING");
        return plain.contains(token) ? 1 + plain.indexOf(token) : Source.kind(token);
    }

    private static int ruleOf(String name) {
        if (!RULES.containsKey(name)) {
            RULES.put(name, RULES.size());
            PRODUCTIONS.add(new ArrayList<>());
        }
        return RULES.get(name);
    }

    private static int symbolOf(String name) {
        if (BARS.contains(name)) {
            return FIRST_BAR + BARS.indexOf(name);
        }
        boolean isRule = Character.isUpperCase(name.charAt(0)) && !name.equals(name.toUpperCase());
        return isRule ? FIRST_RULE + ruleOf(name) : kindOf(name);
    }

    private static void production(String line) {
        String[] parts = line.split(" ");
        int[] body = new int[parts.length - 2];
        for (int i = 0; i < body.length; i++) {
            body[i] = symbolOf(parts[i + 2]);
        }
        int head = ruleOf(parts[0]);
        PRODUCTIONS.get(head).add(BODIES.size());
        HEADS.add(head);
        BODIES.add(body);
    }

    /** The readings that are open behind some tokens, when it is known which ~ symbols the next one lets pass. */
    private static final class State {
        final Set<Long> seen = new HashSet<>();
        final List<Long> items = new ArrayList<>();
        final Map<Integer, List<Long>> awaiting = new HashMap<>();
        final Set<Integer> emptyHere = new HashSet<>();

        void put(int production, int dot, int origin) {
            long item = ((long) production * 64 + dot) * 100000 + origin;
            if (seen.add(item)) {
                items.add(item);
            }
        }
    }

    private final List<State> past = new ArrayList<>();
    private State kernel = new State();

    Prefixes() {
        for (int production : PRODUCTIONS.get(RULES.get("File"))) {
            kernel.put(production, 0, 0);
        }
    }

    private static int passes(int kind) {
        int passes = 0;
        for (int i = 0; i < BARRED_KINDS.size(); i++) {
            passes |= BARRED_KINDS.get(i).get(kind) ? 0 : 1 << i;
        }
        return passes;
    }

    private State closed(int passes) {
        State state = new State();
        int here = past.size();
        state.items.addAll(kernel.items);
        state.seen.addAll(kernel.seen);
        for (int i = 0; i < state.items.size(); i++) {
            long item = state.items.get(i);
            int origin = (int) (item % 100000);
            int dot = (int) (item / 100000 % 64);
            int production = (int) (item / 6400000);
            int[] body = BODIES.get(production);
            if (dot == body.length) {
                complete(state, here, HEADS.get(production), origin);
            } else if (body[dot] >= FIRST_BAR) {
                if ((passes >> body[dot] - FIRST_BAR & 1) != 0) {
                    state.put(production, dot + 1, origin);
                }
            } else {
                state.awaiting.computeIfAbsent(body[dot], key -> new ArrayList<>()).add(item);
                if (body[dot] >= FIRST_RULE) {
                    predict(state, here, body[dot] - FIRST_RULE);
                    if (state.emptyHere.contains(body[dot] - FIRST_RULE)) {
                        state.put(production, dot + 1, origin);
                    }
                }
            }
        }
        return state;
    }

    private static void predict(State state, int here, int rule) {
        for (int production : PRODUCTIONS.get(rule)) {
            state.put(production, 0, here);
        }
    }

    private void complete(State state, int here, int rule, int origin) {
        if (origin == here) {
            state.emptyHere.add(rule);
        }
        State begun = origin == here ? state : past.get(origin);
        List<Long> waiting = begun.awaiting.get(FIRST_RULE + rule);
        if (waiting == null) {
            return;
        }
        for (long item : new ArrayList<>(waiting)) {
            state.put((int) (item / 6400000), (int) (item / 100000 % 64) + 1, (int) (item % 100000));
        }
    }

    /** All kinds that some program has next, and END (0) if the tokens are a program. */
    BitSet next() {
        BitSet next = new BitSet();
        Map<Integer, State> states = new HashMap<>();
        for (int kind : KINDS) {
            State state = states.computeIfAbsent(passes(kind), this::closed);
            if (state.awaiting.containsKey(kind)) {
                next.set(kind);
            }
        }
        State last = states.computeIfAbsent(passes(END), this::closed);
        for (long item : last.items) {
            int production = (int) (item / 6400000);
            boolean whole = item / 100000 % 64 == BODIES.get(production).length && item % 100000 == 0;
            if (whole && HEADS.get(production).equals(RULES.get("File"))) {
                next.set(END);
            }
        }
        return next;
    }

    /** Tells whether some program has this token next; if none has, nothing changes. */
    boolean take(int kind) {
        State state = closed(passes(kind));
        List<Long> waiting = state.awaiting.get(kind);
        if (waiting == null) {
            return false;
        }
        past.add(state);
        kernel = new State();
        for (long item : waiting) {
            kernel.put((int) (item / 6400000), (int) (item / 100000 % 64) + 1, (int) (item % 100000));
        }
        return true;
    }

    /** The number of the first token that no program has there, the END's too; -1 if they are a program. */
    static int firstError(int[] kinds) {
        Prefixes read = new Prefixes();
        for (int i = 0; i < kinds.length; i++) {
            if (!read.take(kinds[i])) {
                return i;
            }
        }
        return read.next().get(END) ? -1 : kinds.length;
    }
}
