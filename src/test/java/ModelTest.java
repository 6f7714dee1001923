import java.util.ArrayList;
import java.util.Comparator;
import java.util.List;
import java.util.NoSuchElementException;
import java.util.Random;

/**
 * Runs of calls, ordinary and wrong ones, whose answers are compared with those of a slow model that
 * follows the document's words with objects and lists. The seed is fixed: every run is the same.
 */
public final class ModelTest {
    private static final int RUNS = 3000;
    private static final int MOST_CALLS = 512;

    private static int wrong = 0;

    public static void main(String[] args) {
        for (int run = 0; run < RUNS && wrong < 20; run++) {
            compareRun(run);
        }
        System.out.println(wrong == 0 ? RUNS + " runs are as the model says" : wrong + " answers are wrong");
        System.exit(wrong == 0 ? 0 : 1);
    }

    private static void compareRun(int run) {
        Random random = new Random(1000003L * run + 17);
        Caller caller = new Caller(random);
        EvenClock clock = new EvenClock();
        Model model = new Model();
        int calls = run % 10 == 0 ? MOST_CALLS : 20 + random.nextInt(120);
        for (int i = 0; i < calls && wrong < 20; i++) {
            long[] call = caller.next(model);
            String got = answer(() -> onClock(clock, call));
            String due = answer(() -> onModel(model, call));
            if (!got.equals(due)) {
                wrong++;
                System.out.println("run " + run + ", call " + i + ": " + text(call) + " answered " + got
                        + ", due is " + due);
            }
        }
    }

    private interface Call {
        long answer();
    }

    private static String answer(Call call) {
        try {
            return Long.toString(call.answer());
        } catch (RuntimeException e) {
            return e.getClass().getSimpleName();
        }
    }

    private static final String[] NAMES = {"sink", "cut", "source", "wires", "buffer", "sinks", "build", "node",
        "length", "depth", "set", "setting", "load", "delay", "slack", "best", "improve"};

    private static String text(long[] c) {
        StringBuilder s = new StringBuilder(NAMES[(int) c[0]]);
        for (int i = 1; i < c.length; i++) {
            s.append(' ').append(c[i]);
        }
        return s.toString();
    }

    private static long onClock(EvenClock x, long[] c) {
        switch ((int) c[0]) {
            case 0: return x.sink((int) c[1], (int) c[2], (int) c[3], (int) c[4]);
            case 1: x.cut((int) c[1]); return 0;
            case 2: x.source((int) c[1], (int) c[2]); return 0;
            case 3: x.wires((int) c[1], (int) c[2]); return 0;
            case 4: x.buffer((int) c[1], (int) c[2], (int) c[3]); return 0;
            case 5: return x.sinks();
            case 6: return x.build((int) c[1]);
            case 7: return x.node((int) c[1], (int) c[2]);
            case 8: return x.length();
            case 9: return x.depth((int) c[1]);
            case 10: return x.set((int) c[1], c[2] != 0) ? 1 : 0;
            case 11: return x.setting();
            case 12: return x.load((int) c[1], c[2] != 0);
            case 13: return x.delay((int) c[1]);
            case 14: return x.slack();
            case 15: return x.best();
            default: return x.improve();
        }
    }

    private static long onModel(Model m, long[] c) {
        switch ((int) c[0]) {
            case 0: return m.sink(c[1], c[2], c[3], c[4]);
            case 1: return m.cut(c[1]);
            case 2: return m.source(c[1], c[2]);
            case 3: return m.wires(c[1], c[2]);
            case 4: return m.buffer(c[1], c[2], c[3]);
            case 5: return m.sinks.size();
            case 6: return m.build(c[1]);
            case 7: return m.part(c[1], c[2]);
            case 8: return m.length();
            case 9: return m.depth(c[1]);
            case 10: return m.set(c[1], c[2] != 0);
            case 11: return m.setting();
            case 12: return m.load(c[1], c[2] != 0);
            case 13: return m.delay(c[1]);
            case 14: return m.slack();
            case 15: return m.best(false);
            default: return m.best(true);
        }
    }

    /** Chooses calls: mostly such that a tree stands and is asked about, now and then wrong ones. */
    private static final class Caller {
        final Random random;
        final int span;
        final int wantedSinks;
        final int oddness;
        final int asking;

        Caller(Random random) {
            this.random = random;
            int[] spans = {1, 2, 3, 6, 20, 200, 200};
            span = spans[random.nextInt(spans.length)];
            wantedSinks = 1 + random.nextInt(10);
            oddness = 5 + random.nextInt(40);
            asking = 4 + random.nextInt(40);
        }

        long[] next(Model m) {
            if (random.nextInt(oddness) == 0) {
                return odd(m);
            }
            if (m.nodes == null) {
                if (m.sinks.size() < wantedSinks) {
                    return new long[] {0, place(), place(), 1 + random.nextInt(100), need()};
                }
                if (random.nextInt(4) == 0) {
                    return change();
                }
                return new long[] {6, random.nextInt(2)};
            }
            if (random.nextInt(asking) == 0) {
                return random.nextInt(3) > 0 ? new long[] {6, random.nextInt(2)} : ending(m);
            }
            return ask(m);
        }

        private long place() {
            return random.nextInt(span + 1);
        }

        private long need() {
            int[] bounds = {1, 10, 1000, 100000, 10000000, 1000000001};
            return random.nextInt(bounds[random.nextInt(bounds.length)]);
        }

        private long[] ending(Model m) {
            switch (random.nextInt(3)) {
                case 0: return new long[] {0, place(), place(), 1 + random.nextInt(100), need()};
                case 1: return new long[] {1, random.nextInt(m.sinks.size() + 1)};
                default: return new long[] {2, place(), place()};
            }
        }

        private long[] change() {
            switch (random.nextInt(3)) {
                case 0: return new long[] {2, place(), place()};
                case 1: return new long[] {3, 1 + random.nextInt(20), 1 + random.nextInt(20)};
                default: return aBuffer();
            }
        }

        private long[] aBuffer() {
            int[] inputs = {1, 20, 1000, 1000000};
            int[] drives = {1, 10, 1000};
            int[] delays = {1, 1000, 1000000000};
            return new long[] {4, 1 + random.nextInt(inputs[random.nextInt(4)]),
                1 + random.nextInt(drives[random.nextInt(3)]), random.nextInt(delays[random.nextInt(3)])};
        }

        private long[] ask(Model m) {
            int n = m.sinks.size();
            int all = m.nodes.size();
            switch (random.nextInt(16)) {
                case 0: return new long[] {3, 1 + random.nextInt(20), 1 + random.nextInt(20)};
                case 1: return aBuffer();
                case 2: return new long[] {8};
                case 3: return new long[] {9, random.nextInt(n)};
                case 4:
                case 5: return new long[] {10, n + random.nextInt(Math.max(1, n - 1)), random.nextInt(3)};
                case 6: return new long[] {11};
                case 7: return new long[] {12, random.nextInt(all), random.nextInt(2)};
                case 8: return new long[] {13, random.nextInt(n)};
                case 9: return new long[] {14};
                case 10: return new long[] {15};
                case 11: return new long[] {16};
                case 12: return new long[] {5};
                default: return new long[] {7, random.nextInt(all), random.nextInt(11)};
            }
        }

        /** Every argument is now and then at or beyond an edge. */
        private long[] odd(Model m) {
            int[] arguments = {4, 1, 2, 2, 3, 0, 1, 2, 0, 1, 2, 0, 2, 1, 0, 0, 0};
            int kind = random.nextInt(arguments.length);
            long[] call = new long[arguments[kind] + 1];
            call[0] = kind;
            for (int i = 1; i < call.length; i++) {
                call[i] = edge(m);
            }
            return call;
        }

        private long edge(Model m) {
            int n = m.sinks.size();
            long[] edges = {-1, 0, 1, 2, 9, 10, 11, 19, 20, 21, 99, 100, 101, 199, 200, 201, 1000, 1001, 1000000,
                1000001, 1000000000, 1000000001, Integer.MAX_VALUE, Integer.MIN_VALUE, n - 1, n, n + 1,
                2 * n - 2, 2 * n - 1, 2 * n};
            return random.nextInt(3) == 0 ? edges[random.nextInt(edges.length)] : 1 + random.nextInt(12);
        }
    }

    private static final class Node {
        int number;
        Node left;
        Node right;
        Node parent;
        long x;
        long y;
        long load;
        long need;
        long u1;
        long u2;
        long v1;
        long v2;
        long time;
        long wire;
        long u;
        long v;
    }

    /** The document's words. */
    private static final class Model {
        final List<Node> sinks = new ArrayList<>();
        List<Node> nodes = null;
        long sx = 0;
        long sy = 0;
        long r = 1;
        long c = 1;
        long input = 1;
        long drive = 1;
        long lag = 0;
        int present = 0;

        long sink(long x, long y, long load, long need) {
            argue(x >= 0 && x <= 200 && y >= 0 && y <= 200 && load >= 1 && load <= 100 && need >= 0
                    && need <= 1000000000L);
            if (sinks.size() == 10) {
                throw new UnsupportedOperationException();
            }
            Node s = new Node();
            s.number = sinks.size();
            s.x = x;
            s.y = y;
            s.load = load;
            s.need = need;
            sinks.add(s);
            nodes = null;
            return s.number;
        }

        long cut(long n) {
            argue(n >= 0 && n <= sinks.size());
            while (sinks.size() > n) {
                sinks.remove(sinks.size() - 1);
            }
            nodes = null;
            return 0;
        }

        long source(long x, long y) {
            argue(x >= 0 && x <= 200 && y >= 0 && y <= 200);
            sx = x;
            sy = y;
            nodes = null;
            return 0;
        }

        long wires(long newR, long newC) {
            argue(newR >= 1 && newR <= 20 && newC >= 1 && newC <= 20);
            r = newR;
            c = newC;
            return 0;
        }

        long buffer(long newInput, long newDrive, long newLag) {
            argue(newInput >= 1 && newInput <= 1000000 && newDrive >= 1 && newDrive <= 1000 && newLag >= 0
                    && newLag <= 1000000000L);
            input = newInput;
            drive = newDrive;
            lag = newLag;
            return 0;
        }

        long build(long way) {
            argue(way == 0 || way == 1);
            if (sinks.isEmpty()) {
                throw new NoSuchElementException();
            }
            nodes = new ArrayList<>();
            present = 0;
            for (Node s : sinks) {
                s.left = null;
                s.right = null;
                s.parent = null;
                s.u1 = s.u2 = 1024 * (s.x + s.y);
                s.v1 = s.v2 = 1024 * (s.x - s.y);
                s.time = 0;
                nodes.add(s);
            }
            if (way == 0) {
                byDistance();
            } else {
                byCutting(new ArrayList<>(sinks), 0);
            }
            Node root = nodes.get(nodes.size() - 1);
            long su = 1024 * (sx + sy);
            long sv = 1024 * (sx - sy);
            stand(root, su, sv);
            root.wire = Math.max(Math.abs(root.u - su), Math.abs(root.v - sv));
            return nodes.size();
        }

        private void byDistance() {
            List<Node> free = new ArrayList<>(sinks);
            while (free.size() > 1) {
                List<Node[]> pairs = new ArrayList<>();
                for (Node a : free) {
                    for (Node b : free) {
                        if (a.number < b.number) {
                            pairs.add(new Node[] {a, b});
                        }
                    }
                }
                pairs.sort(Comparator.comparingLong((Node[] p) -> distance(p[0], p[1]))
                        .thenComparingInt(p -> p[0].number).thenComparingInt(p -> p[1].number));
                Node[] nearest = pairs.get(0);
                free.remove(nearest[0]);
                free.remove(nearest[1]);
                free.add(join(nearest[0], nearest[1]));
            }
        }

        private Node byCutting(List<Node> row, int cuts) {
            if (row.size() == 1) {
                return row.get(0);
            }
            Comparator<Node> byX = Comparator.comparingLong(s -> s.x);
            Comparator<Node> byY = Comparator.comparingLong(s -> s.y);
            Comparator<Node> order = cuts % 2 == 0 ? byX.thenComparing(byY) : byY.thenComparing(byX);
            List<Node> sorted = new ArrayList<>(row);
            sorted.sort(order.thenComparingInt(s -> s.number));
            int half = sorted.size() - sorted.size() / 2;
            Node first = byCutting(sorted.subList(0, half), cuts + 1);
            Node rest = byCutting(sorted.subList(half, sorted.size()), cuts + 1);
            return join(first, rest);
        }

        private static long apart(long a1, long a2, long b1, long b2) {
            boolean meet = a1 <= b2 && b1 <= a2;
            return meet ? 0 : Math.min(Math.min(Math.abs(a1 - b1), Math.abs(a1 - b2)),
                    Math.min(Math.abs(a2 - b1), Math.abs(a2 - b2)));
        }

        private static long distance(Node a, Node b) {
            return Math.max(apart(a.u1, a.u2, b.u1, b.u2), apart(a.v1, a.v2, b.v1, b.v2));
        }

        private Node join(Node a, Node b) {
            long d = distance(a, b);
            if (a.time > d + b.time) {
                a.wire = 0;
                b.wire = a.time - b.time;
            } else if (b.time > d + a.time) {
                b.wire = 0;
                a.wire = b.time - a.time;
            } else {
                if (Math.floorMod(d + b.time - a.time, 2) != 0) {
                    throw new AssertionError("not a whole number");
                }
                a.wire = (d + b.time - a.time) / 2;
                b.wire = d - a.wire;
            }
            Node j = new Node();
            j.number = nodes.size();
            j.left = a;
            j.right = b;
            a.parent = j;
            b.parent = j;
            j.u1 = Math.max(a.u1 - a.wire, b.u1 - b.wire);
            j.u2 = Math.min(a.u2 + a.wire, b.u2 + b.wire);
            j.v1 = Math.max(a.v1 - a.wire, b.v1 - b.wire);
            j.v2 = Math.min(a.v2 + a.wire, b.v2 + b.wire);
            j.time = a.time + a.wire;
            if (j.time != b.time + b.wire || j.u1 > j.u2 || j.v1 > j.v2) {
                throw new AssertionError("the join is not even");
            }
            nodes.add(j);
            return j;
        }

        private static long nearest(long low, long high, long to) {
            return to < low ? low : to > high ? high : to;
        }

        private void stand(Node k, long u, long v) {
            k.u = nearest(k.u1, k.u2, u);
            k.v = nearest(k.v1, k.v2, v);
            if (k.left != null) {
                stand(k.left, k.u, k.v);
                stand(k.right, k.u, k.v);
            }
        }

        long part(long k, long part) {
            need();
            index(k >= 0 && k < nodes.size() && part >= 0 && part <= 10);
            Node x = nodes.get((int) k);
            long[] parts = {x.left == null ? -1 : x.left.number, x.right == null ? -1 : x.right.number,
                x.parent == null ? -1 : x.parent.number, x.u1, x.u2, x.v1, x.v2, x.time, x.wire, x.u, x.v};
            return parts[(int) part];
        }

        long length() {
            need();
            return nodes.stream().mapToLong(k -> k.wire).sum();
        }

        long depth(long sink) {
            need();
            index(sink >= 0 && sink < sinks.size());
            int joins = 0;
            for (Node k = sinks.get((int) sink).parent; k != null; k = k.parent) {
                joins++;
            }
            return joins;
        }

        long set(long join, boolean on) {
            need();
            index(join >= sinks.size() && join < nodes.size());
            int bit = 1 << (join - sinks.size());
            boolean was = (present & bit) != 0;
            if (was != on) {
                present += on ? bit : -bit;
            }
            return was != on ? 1 : 0;
        }

        long setting() {
            need();
            return present;
        }

        long load(long node, boolean shown) {
            need();
            index(node >= 0 && node < nodes.size());
            Node k = nodes.get((int) node);
            return shown ? shows(k, present) : bears(k, present);
        }

        long delay(long sink) {
            need();
            index(sink >= 0 && sink < sinks.size());
            return delayOf(sinks.get((int) sink), present);
        }

        long slack() {
            need();
            return slackOf(present);
        }

        long best(boolean take) {
            need();
            long greatest = slackOf(0);
            int which = 0;
            for (int number = 1; number < 1 << (sinks.size() - 1); number++) {
                long slack = slackOf(number);
                if (slack > greatest) {
                    greatest = slack;
                    which = number;
                }
            }
            if (take) {
                present = which;
                return which;
            }
            return greatest;
        }

        private boolean hasBuffer(Node k, int number) {
            return k.left != null && (number >> (k.number - sinks.size()) & 1) != 0;
        }

        private long bears(Node k, int number) {
            return k.left == null ? 1024 * k.load
                : shows(k.left, number) + c * k.left.wire + shows(k.right, number) + c * k.right.wire;
        }

        private long shows(Node k, int number) {
            return hasBuffer(k, number) ? 1024 * input : bears(k, number);
        }

        private long delayOf(Node sink, int number) {
            long sum = 0;
            for (Node k = sink; k != null; k = k.parent) {
                sum += r * k.wire * (c * k.wire + 2 * shows(k, number));
                sum += hasBuffer(k, number) ? lag + 2 * drive * bears(k, number) : 0;
            }
            return sum;
        }

        private long slackOf(int number) {
            return sinks.stream().mapToLong(s -> 1048576L * s.need - delayOf(s, number)).min().getAsLong();
        }

        private void need() {
            if (nodes == null) {
                throw new IllegalStateException();
            }
        }

        private static void index(boolean fits) {
            if (!fits) {
                throw new IndexOutOfBoundsException();
            }
        }

        private static void argue(boolean fits) {
            if (!fits) {
                throw new IllegalArgumentException();
            }
        }
    }
}
