import java.util.NoSuchElementException;

/** What the tests share: answers that are due, calls that are refused, and all that an object tells. */
final class Checks {
    static final Class<? extends RuntimeException> ARGUMENT = IllegalArgumentException.class;
    static final Class<? extends RuntimeException> STATE = IllegalStateException.class;
    static final Class<? extends RuntimeException> INDEX = IndexOutOfBoundsException.class;
    static final Class<? extends RuntimeException> FULL = UnsupportedOperationException.class;
    static final Class<? extends RuntimeException> EMPTY = NoSuchElementException.class;

    static final int LEFT = 0;
    static final int RIGHT = 1;
    static final int PARENT = 2;
    static final int U1 = 3;
    static final int U2 = 4;
    static final int V1 = 5;
    static final int V2 = 6;
    static final int TIME = 7;
    static final int WIRE = 8;
    static final int U = 9;
    static final int V = 10;

    static final int LEAST = Integer.MIN_VALUE;
    static final int GREATEST = Integer.MAX_VALUE;

    private static int wrong = 0;
    private static int tests = 0;
    private static String words = "";

    private Checks() {
    }

    /** One test for one sentence of the document; what it throws is a fault of that sentence alone. */
    static void sentence(String said, Runnable test) {
        words = said;
        tests++;
        try {
            test.run();
        } catch (RuntimeException | AssertionError e) {
            fault("the test ended with " + e);
        }
        words = "";
    }

    static void finish() {
        System.out.println(wrong == 0 ? "all of " + tests + " tests hold" : wrong + " faults in " + tests + " tests");
        System.exit(wrong == 0 ? 0 : 1);
    }

    private static void fault(String what) {
        wrong++;
        System.out.println("[" + words + "] " + what);
    }

    static void due(String what, long got, long want) {
        if (got != want) {
            fault(what + " answered " + got + ", due is " + want);
        }
    }

    static void due(String what, boolean got, boolean want) {
        if (got != want) {
            fault(what + " answered " + got + ", due is " + want);
        }
    }

    static void same(String what, String got, String want) {
        if (!got.equals(want)) {
            fault(what + " answered\n  " + got + "\ndue is\n  " + want);
        }
    }

    static void refused(String what, Class<? extends RuntimeException> want, Runnable call) {
        String got = "nothing";
        try {
            call.run();
        } catch (RuntimeException e) {
            got = e.getClass().getName();
        }
        if (!got.equals(want.getName())) {
            fault(what + " threw " + got + ", due is " + want.getName());
        }
    }

    /** The parts 0, 1, .. of a node. */
    static void parts(String what, EvenClock x, int k, int... want) {
        for (int part = 0; part < want.length; part++) {
            due(what + ": node(" + k + ", " + part + ")", x.node(k, part), want[part]);
        }
    }

    /** The two children of each join, in the order in which the joins were made. */
    static void joins(String what, EvenClock x, int... children) {
        int n = x.sinks();
        due(what + ": number of joins", n - 1, children.length / 2);
        for (int i = 0; i < children.length; i++) {
            int join = n + i / 2;
            due(what + ": " + (i % 2 == 0 ? "left" : "right") + " of " + join, x.node(join, i % 2), children[i]);
        }
    }

    /** All parts of all nodes, by node and part; of ten sinks that takes 210 calls. */
    static int[][] nodes(EvenClock x) {
        int[][] all = new int[2 * x.sinks() - 1][V + 1];
        for (int k = 0; k < all.length; k++) {
            for (int part = 0; part <= V; part++) {
                all[k][part] = x.node(k, part);
            }
        }
        return all;
    }

    /** Sinks at places x, y, x, y, .. , each with load 1 and need 0. */
    static EvenClock at(int... xy) {
        EvenClock x = new EvenClock();
        for (int i = 0; i < xy.length; i += 2) {
            x.sink(xy[i], xy[i + 1], 1, 0);
        }
        return x;
    }

    static EvenClock builtAt(int way, int... xy) {
        EvenClock x = at(xy);
        x.build(way);
        return x;
    }

    /** So many sinks, all at the place of the source. */
    static EvenClock together(int n) {
        return at(new int[2 * n]);
    }

    /** Every call that needs a tree, with numbers that are right in a tree of two sinks and with wrong ones. */
    static void noTree(String what, EvenClock x) {
        refused(what + ": node", STATE, () -> x.node(0, 0));
        refused(what + ": node that is not", STATE, () -> x.node(-1, 0));
        refused(what + ": part that is not", STATE, () -> x.node(0, 11));
        refused(what + ": length", STATE, () -> x.length());
        refused(what + ": depth", STATE, () -> x.depth(0));
        refused(what + ": depth of none", STATE, () -> x.depth(-1));
        refused(what + ": set", STATE, () -> x.set(2, true));
        refused(what + ": taken away", STATE, () -> x.set(2, false));
        refused(what + ": set at none", STATE, () -> x.set(-1, true));
        refused(what + ": setting", STATE, () -> x.setting());
        refused(what + ": load", STATE, () -> x.load(0, false));
        refused(what + ": load shown", STATE, () -> x.load(0, true));
        refused(what + ": load of none", STATE, () -> x.load(-1, true));
        refused(what + ": delay", STATE, () -> x.delay(0));
        refused(what + ": delay of none", STATE, () -> x.delay(99));
        refused(what + ": slack", STATE, () -> x.slack());
        refused(what + ": best", STATE, () -> x.best());
        refused(what + ": improve", STATE, () -> x.improve());
    }

    static boolean hasTree(EvenClock x) {
        try {
            x.setting();
            return true;
        } catch (IllegalStateException e) {
            return false;
        }
    }

    /** All that an object tells without being changed; of ten sinks that takes 274 calls. */
    static String answers(EvenClock x) {
        int n = x.sinks();
        StringBuilder s = new StringBuilder("sinks ").append(n);
        if (!hasTree(x)) {
            return s.append(" no tree").toString();
        }
        s.append(" length ").append(x.length());
        for (int k = 0; k < 2 * n - 1; k++) {
            s.append(" | ").append(k);
            for (int part = 0; part <= 10; part++) {
                s.append(' ').append(x.node(k, part));
            }
        }
        return s.append(electric(x)).toString();
    }

    private static String electric(EvenClock x) {
        int n = x.sinks();
        StringBuilder s = new StringBuilder(" | setting ").append(x.setting());
        for (int k = 0; k < 2 * n - 1; k++) {
            s.append(" | ").append(x.load(k, false)).append(' ').append(x.load(k, true));
        }
        for (int k = 0; k < n; k++) {
            s.append(" | ").append(x.depth(k)).append(' ').append(x.delay(k));
        }
        return s.append(" | ").append(x.slack()).append(' ').append(x.best()).toString();
    }

    /**
     * All that an object tells, and what it tells of its sinks, source, wires and buffer in a new tree
     * (these cannot be asked for without one). It changes the object. At most 407 calls.
     */
    static String story(EvenClock x) {
        StringBuilder s = new StringBuilder(answers(x));
        if (x.sinks() == 0) {
            s.append(" | new sink ").append(x.sink(3, 8, 5, 77));
        }
        int n = x.sinks();
        s.append(" | new tree ").append(x.build(1));
        for (int join = n; join < 2 * n - 1; join++) {
            s.append(' ').append(x.set(join, true));
        }
        for (int k = 0; k < 2 * n - 1; k++) {
            s.append(" | ").append(x.node(k, U)).append(' ').append(x.node(k, V)).append(' ').append(x.node(k, WIRE));
        }
        s.append(electric(x)).append(" | improved ").append(x.improve());
        if (n < 10) {
            s.append(" | next sink ").append(x.sink(1, 2, 3, 4));
        }
        return s.toString();
    }
}
