import java.util.ArrayList;
import java.util.BitSet;
import java.util.List;
import java.util.Random;

/**
 * Promise 4: the error is the first token that no program has there, for random prefixes of programs with each of
 * the kinds behind them, and for random programs in which some tokens were changed. Prefixes tells what is due.
 */
public final class PrefixTest {
    private static final Check CHECK = new Check();

    private static final String[] STARTS = {
        "package", "package p ;", "package p ; func f (", "package p ; func f ( ) (", "package p ; func (",
        "package p ; type t", "package p ; const", "package p ; var", "package p ; var a = func ( a",
        "package p ; var a = [ ... ]",
        Source.IN_FUNCTION, Source.IN_FUNCTION + "a", Source.IN_FUNCTION + "a , b", Source.IN_FUNCTION + "a = ",
        Source.IN_FUNCTION + "a [", Source.IN_FUNCTION + "a (", Source.IN_FUNCTION + "a {", Source.IN_FUNCTION + "a .",
        Source.IN_FUNCTION + "if", Source.IN_FUNCTION + "if func ( ) {", Source.IN_FUNCTION + "if a ;",
        Source.IN_FUNCTION + "if a { }", Source.IN_FUNCTION + "for", Source.IN_FUNCTION + "for a , b",
        Source.IN_FUNCTION + "for ; ;", Source.IN_FUNCTION + "for ;", Source.IN_FUNCTION + "for a = range",
        Source.IN_FUNCTION + "switch", Source.IN_FUNCTION + "switch a", Source.IN_FUNCTION + "switch ;",
        Source.IN_FUNCTION + "switch ; a :=", Source.IN_FUNCTION + "switch a := b",
        Source.IN_FUNCTION + "switch a . ( type ) {", Source.IN_FUNCTION + "switch a { case b :",
        Source.IN_FUNCTION + "switch a := b . ( type ) { case", Source.IN_FUNCTION + "select { case",
        Source.IN_FUNCTION + "select { case a , b", Source.IN_FUNCTION + "a :", Source.IN_FUNCTION + "<-",
    };

    private static final int DEEPEST = 30;
    private static final BitSet OPENERS = kindsOf("( [ { func chan map struct interface * + - ! ^ & <- else :");
    /** A ] is none: the '[' that it closes may be the first token of a Type, which goes on. */
    private static final BitSet CLOSERS = kindsOf(") }");
    private static final int[] CLOSING = Source.kinds(") ] } ; a");

    private final TreeBuilder x = new TreeBuilder();
    private final Random random;

    private PrefixTest(long seed) {
        random = new Random(seed);
    }

    public static void main(String[] args) {
        int times = args.length > 0 ? Integer.parseInt(args[0]) : 6;
        long first = args.length > 1 ? Long.parseLong(args[1]) : 0;
        for (int i = 0; i < times; i++) {
            PrefixTest test = new PrefixTest(first + i);
            for (String start : STARTS) {
                test.walk(Source.kinds(start), 40);
            }
            for (int j = 0; j < 150; j++) {
                test.changed(first + 1000L * i + j);
            }
        }
        CHECK.end();
    }

    private static BitSet kindsOf(String text) {
        BitSet kinds = new BitSet();
        for (int kind : Source.kinds(text)) {
            kinds.set(kind);
        }
        return kinds;
    }

    /** At least as many as lie in one another behind these tokens. */
    private static int parts(List<Integer> kinds) {
        int parts = 0;
        for (int kind : kinds) {
            parts += OPENERS.get(kind) ? 1 : CLOSERS.get(kind) ? -1 : 0;
        }
        return parts;
    }

    private void walk(int[] start, int steps) {
        Prefixes read = new Prefixes();
        List<Integer> kinds = new ArrayList<>();
        for (int kind : start) {
            read.take(kind);
            kinds.add(kind);
        }
        int homewards = random.nextInt(4);
        for (int step = 0; step < steps && parts(kinds) < DEEPEST; step++) {
            BitSet due = read.next();
            compare(kinds, due);
            int kind = pick(due, homewards);
            if (kind == Prefixes.END) {
                return;
            }
            read.take(kind);
            kinds.add(kind);
        }
    }

    private void compare(List<Integer> kinds, BitSet due) {
        int size = kinds.size();
        int[] more = new int[size + 1];
        for (int i = 0; i < size; i++) {
            more[i] = kinds.get(i);
        }
        BitSet got = new BitSet();
        for (int kind : Prefixes.allKinds()) {
            more[size] = kind;
            Source.give(x, more);
            int answer = x.build();
            boolean tooEarly = answer < 0 && -1 - answer < size;
            got.set(kind, !tooEarly && answer != -1 - size);
        }
        int[] same = java.util.Arrays.copyOf(more, size);
        Source.give(x, same);
        int answer = x.build();
        got.set(Prefixes.END, answer >= 0);
        CHECK.due("kinds that can follow " + Source.text(same), got, due);
        if (answer < 0) {
            CHECK.due("build of " + Source.text(same), answer, -1 - size);
        }
    }

    private int pick(BitSet due, int homewards) {
        if (random.nextInt(10) < homewards) {
            for (int kind : CLOSING) {
                if (due.get(kind) && random.nextBoolean()) {
                    return kind;
                }
            }
        }
        int[] kinds = due.stream().filter(kind -> kind != Prefixes.END).toArray();
        return kinds.length == 0 ? Prefixes.END : kinds[random.nextInt(kinds.length)];
    }

    private void changed(long seed) {
        Program program = new Program(seed, 20 + (int) (seed % 5) * 20, 50);
        if (program.deepest > DEEPEST / 2) {
            return;
        }
        List<Integer> kinds = new ArrayList<>(program.kinds);
        int[] all = Prefixes.allKinds();
        for (int changes = random.nextInt(3); changes >= 0; changes--) {
            int at = random.nextInt(kinds.size());
            int kind = random.nextBoolean() ? all[random.nextInt(all.length)] : kinds.get(random.nextInt(kinds.size()));
            switch (random.nextInt(4)) {
                case 0:
                    kinds.remove(at);
                    break;
                case 1:
                    kinds.add(at, kind);
                    break;
                case 2:
                    kinds.set(at, kind);
                    break;
                default:
                    kinds.set(at, kinds.set(random.nextInt(kinds.size()), kinds.get(at)));
            }
        }
        int[] tokens = kinds.stream().mapToInt(Integer::intValue).toArray();
        int error = Prefixes.firstError(tokens);
        Source.give(x, tokens);
        int answer = x.build();
        if (error >= 0) {
            CHECK.due("build of " + Source.text(tokens), answer, -1 - error);
        } else {
            CHECK.due("build of " + Source.text(tokens) + " > 0", answer > 0, true);
        }
    }
}
