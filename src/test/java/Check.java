import java.util.NoSuchElementException;

/** Counts the answers that are not as due, and ends the program with 1 if there was one. */
final class Check {
    private int right;
    private int wrong;

    void due(String call, Object got, Object want) {
        if (want.equals(got)) {
            right++;
        } else {
            wrong++;
            System.out.println(call + "\n  answered " + got + "\n  due is   " + want);
        }
    }

    void noNode(TreeBuilder x, int k, int what) {
        String got;
        try {
            got = "" + x.node(k, what);
        } catch (NoSuchElementException e) {
            got = "NoSuchElementException";
        }
        due("node(" + k + ", " + what + ")", got, "NoSuchElementException");
    }

    void noChild(TreeBuilder x, int k, int i) {
        String got;
        try {
            got = "" + x.child(k, i);
        } catch (NoSuchElementException e) {
            got = "NoSuchElementException";
        }
        due("child(" + k + ", " + i + ")", got, "NoSuchElementException");
    }

    void end() {
        System.out.println(right + " answers as due, " + wrong + " not");
        if (wrong > 0 || right == 0) {
            System.exit(1);
        }
    }
}
