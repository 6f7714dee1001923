import java.util.Arrays;

/**
 * 'What it is' and 'Terms' of the document, sentence by sentence: each stands here word for word, with a test
 * that fails if it is broken. The edges are in the tests of bounds.
 */
public final class TermsTest {
    private static final int[] SCATTERED = {3, 8, 17, 2, 9, 9, 0, 14, 20, 20, 11, 1, 6, 13, 19, 5, 9, 9, 2, 2};

    public static void main(String[] args) {
        whatItIs();
        sinksAndPlaces();
        regions();
        nodes();
        joining();
        ways();
        places();
        wiresAndBuffers();
        loads();
        delays();
        settings();
        calls();
        Document.isWhole("What it is", "Promise 1");
        Checks.finish();
    }

    private static EvenClock scattered(int n, int way) {
        return Checks.builtAt(way, Arrays.copyOf(SCATTERED, 2 * n));
    }

    /** Wires of 2048 above both sinks and above the root, which stands at u 2048, v 0 and bears 8192. */
    private static EvenClock pair() {
        EvenClock x = new EvenClock();
        x.sink(0, 0, 1, 10);
        x.sink(2, 2, 3, 20);
        x.build(0);
        return x;
    }

    private static void whatItIs() {
        Document.says("A clock's tree over points of a plane: sinks are joined two by two so that the wire from where "
                + "they are joined is as long to every sink,", TermsTest::asLongToEverySink);
        Document.says("regions of places that do for that are worked out from the sinks up,",
                TermsTest::placesThatDo);
        Document.says("places are chosen from the source down;", TermsTest::wiresReach);
        Document.says("then the tree is looked at with resistances and capacities, and buffers are set where they help "
                + "most.", TermsTest::whereTheyHelpMost);
        Document.says("An object is used for at most 512 calls after it has been made;", TermsTest::manyCalls);
        Document.saysOnly("what later calls answer is free.");
    }

    private static void asLongToEverySink() {
        for (int n = 1; n <= 10; n++) {
            for (int way = 0; way < 2; way++) {
                int[][] nodes = Checks.nodes(scattered(n, way));
                for (int sink = 0; sink < n; sink++) {
                    int sum = 0;
                    for (int k = sink; nodes[k][Checks.PARENT] != -1; k = nodes[k][Checks.PARENT]) {
                        sum += nodes[k][Checks.WIRE];
                        int join = nodes[k][Checks.PARENT];
                        Checks.due(n + " sinks: from " + join + " to " + sink, sum, nodes[join][Checks.TIME]);
                    }
                }
            }
        }
    }

    private static int apart(int[] region, int u, int v) {
        int inU = Math.max(region[Checks.U1] - u, u - region[Checks.U2]);
        int inV = Math.max(region[Checks.V1] - v, v - region[Checks.V2]);
        return Math.max(0, Math.max(inU, inV));
    }

    /** From the place to both children the wires reach. */
    private static boolean does(int[][] nodes, int join, int u, int v) {
        int[] a = nodes[nodes[join][Checks.LEFT]];
        int[] b = nodes[nodes[join][Checks.RIGHT]];
        return apart(a, u, v) <= a[Checks.WIRE] && apart(b, u, v) <= b[Checks.WIRE];
    }

    private static void placesThatDo() {
        for (int way = 0; way < 2; way++) {
            int[][] nodes = Checks.nodes(scattered(10, way));
            for (int join = 10; join < 19; join++) {
                int[] r = nodes[join];
                int u1 = r[Checks.U1];
                int u2 = r[Checks.U2];
                int v1 = r[Checks.V1];
                int v2 = r[Checks.V2];
                Checks.due(join + ": least u and v", does(nodes, join, u1, v1), true);
                Checks.due(join + ": greatest u and v", does(nodes, join, u2, v2), true);
                Checks.due(join + ": less u", does(nodes, join, u1 - 1, v1), false);
                Checks.due(join + ": greater u", does(nodes, join, u2 + 1, v1), false);
                Checks.due(join + ": less v", does(nodes, join, u1, v1 - 1), false);
                Checks.due(join + ": greater v", does(nodes, join, u1, v2 + 1), false);
            }
        }
    }

    private static void wiresReach() {
        for (int way = 0; way < 2; way++) {
            int[][] nodes = Checks.nodes(scattered(10, way));
            for (int k = 0; k < 18; k++) {
                int[] parent = nodes[nodes[k][Checks.PARENT]];
                int far = Math.max(Math.abs(nodes[k][Checks.U] - parent[Checks.U]),
                        Math.abs(nodes[k][Checks.V] - parent[Checks.V]));
                Checks.due("the wire above " + k + " reaches", far <= nodes[k][Checks.WIRE], true);
            }
        }
    }

    private static EvenClock four() {
        EvenClock x = new EvenClock();
        x.sink(3, 1, 9, 78);
        x.sink(0, 0, 12, 351);
        x.sink(4, 0, 18, 102);
        x.sink(4, 4, 19, 3);
        x.source(4, 0);
        x.buffer(3, 1, 0);
        x.build(0);
        return x;
    }

    private static void putSetting(EvenClock x, int number) {
        int n = x.sinks();
        for (int i = 0; i < n - 1; i++) {
            x.set(n + i, (number >> i & 1) != 0);
        }
    }

    private static void whereTheyHelpMost() {
        EvenClock x = four();
        x.improve();
        long most = x.slack();
        boolean isMost = false;
        for (int number = 0; number < 8; number++) {
            putSetting(x, number);
            Checks.due("not more with " + number, x.slack() <= most, true);
            isMost |= x.slack() < most;
        }
        Checks.due("some are less good", isMost, true);
    }

    private static void manyCalls() {
        EvenClock x = pair();
        for (int i = 0; i < 254; i++) {
            Checks.due("the number of sinks", x.sinks(), 2);
            Checks.due("a change", x.set(2, i % 2 == 0), true);
        }
        Checks.due("the 512th call", x.slack(), -35651584);
    }

    private static void sinksAndPlaces() {
        Document.says("SINKS are numbered 0, 1, .. , at most 10.", TermsTest::sinkNumbers);
        Document.says("A sink has x and y (0 .. 200 each), a LOAD (1 .. 100) and a NEED (0 .. 1000000000).",
                TermsTest::whatASinkHas);
        Document.says("The SOURCE has x and y (0 .. 200), at first both 0.", TermsTest::whatTheSourceHas);
        Document.says("All places are told by U and V: of x and y these are 1024 * (x + y) and 1024 * (x - y).",
                TermsTest::uAndV);
        Document.says("The DISTANCE of two places is the greater of the differences of their us and of their vs "
                + "(without sign).", TermsTest::distance);
        Document.says("(That is 1024 times the way along lines of the grid.)", TermsTest::wayAlongLines);
    }

    private static void sinkNumbers() {
        EvenClock x = new EvenClock();
        for (int k = 0; k < 10; k++) {
            Checks.due("number", x.sink(10 - k, k, 1, 0), k);
        }
        Checks.refused("an eleventh", Checks.FULL, () -> x.sink(0, 0, 1, 0));
        x.build(1);
        for (int k = 0; k < 10; k++) {
            Checks.due("place of " + k, x.node(k, Checks.V), 1024 * (10 - 2 * k));
        }
    }

    private static void whatASinkHas() {
        EvenClock x = new EvenClock();
        x.sink(0, 200, 1, 0);
        x.sink(200, 0, 100, 1000000000);
        Checks.refused("x under", Checks.ARGUMENT, () -> x.sink(-1, 0, 1, 0));
        Checks.refused("x over", Checks.ARGUMENT, () -> x.sink(201, 0, 1, 0));
        Checks.refused("y under", Checks.ARGUMENT, () -> x.sink(0, -1, 1, 0));
        Checks.refused("y over", Checks.ARGUMENT, () -> x.sink(0, 201, 1, 0));
        Checks.refused("load under", Checks.ARGUMENT, () -> x.sink(0, 0, 0, 0));
        Checks.refused("load over", Checks.ARGUMENT, () -> x.sink(0, 0, 101, 0));
        Checks.refused("need under", Checks.ARGUMENT, () -> x.sink(0, 0, 1, -1));
        Checks.refused("need over", Checks.ARGUMENT, () -> x.sink(0, 0, 1, 1000000001));
        x.build(0);
        Checks.parts("0", x, 0, -1, -1, 2, 204800, 204800, -204800, -204800);
        Checks.parts("1", x, 1, -1, -1, 2, 204800, 204800, 204800, 204800);
        Checks.due("load of 0", x.load(0, false), 1024);
        Checks.due("load of 1", x.load(1, false), 102400);
        Checks.due("no need of 0", x.slack(), -x.delay(0));
        EvenClock needy = new EvenClock();
        needy.sink(0, 0, 1, 1000000000);
        needy.build(0);
        Checks.due("the greatest need", needy.slack(), 1048576000000000L);
    }

    private static int wireFrom(int sourceX, int sourceY, int x, int y) {
        EvenClock clock = Checks.at(x, y);
        clock.source(sourceX, sourceY);
        clock.build(0);
        return clock.node(0, Checks.WIRE);
    }

    private static void whatTheSourceHas() {
        Checks.due("x at first", Checks.builtAt(0, 200, 0).node(0, Checks.WIRE), 204800);
        Checks.due("y at first", Checks.builtAt(0, 0, 200).node(0, Checks.WIRE), 204800);
        Checks.due("least", wireFrom(0, 0, 3, 4), 7168);
        Checks.due("greatest x", wireFrom(200, 0, 3, 4), 205824);
        Checks.due("greatest y", wireFrom(0, 200, 3, 4), 203776);
        Checks.refused("x under", Checks.ARGUMENT, () -> wireFrom(-1, 0, 3, 4));
        Checks.refused("x over", Checks.ARGUMENT, () -> wireFrom(201, 0, 3, 4));
        Checks.refused("y under", Checks.ARGUMENT, () -> wireFrom(0, -1, 3, 4));
        Checks.refused("y over", Checks.ARGUMENT, () -> wireFrom(0, 201, 3, 4));
    }

    private static void uAndV() {
        EvenClock x = Checks.builtAt(0, 7, 2, 2, 7, 0, 0, 5, 5);
        Checks.parts("7, 2", x, 0, -1, -1, x.node(0, Checks.PARENT), 9216, 9216, 5120, 5120);
        Checks.parts("2, 7", x, 1, -1, -1, x.node(1, Checks.PARENT), 9216, 9216, -5120, -5120);
        Checks.parts("0, 0", x, 2, -1, -1, x.node(2, Checks.PARENT), 0, 0, 0, 0);
        Checks.parts("5, 5", x, 3, -1, -1, x.node(3, Checks.PARENT), 10240, 10240, 0, 0);
        Checks.due("where 1 stands: u", x.node(1, Checks.U), 9216);
        Checks.due("where 1 stands: v", x.node(1, Checks.V), -5120);
    }

    private static void distance() {
        Checks.due("u 5 more, v 1 more", wireFrom(10, 10, 13, 12), 5120);
        Checks.due("u 1 more, v 5 more", wireFrom(10, 10, 13, 8), 5120);
        Checks.due("u 5 less, v 1 less", wireFrom(10, 10, 7, 8), 5120);
        Checks.due("u 1 less, v 5 less", wireFrom(10, 10, 7, 12), 5120);
        Checks.due("the same place", wireFrom(10, 10, 10, 10), 0);
    }

    private static void wayAlongLines() {
        for (int x = 0; x <= 200; x += 25) {
            for (int y = 0; y <= 200; y += 40) {
                Checks.due(x + ", " + y, wireFrom(90, 110, x, y), 1024 * (Math.abs(x - 90) + Math.abs(y - 110)));
            }
        }
    }

    private static void regions() {
        Document.says("A REGION is all places with u from U1 to U2 and v from V1 to V2.", TermsTest::regionOfPlaces);
        Document.says("The distance of two regions is the least one of two of their places.",
                TermsTest::regionsApart);
        Document.says("A region WIDENED by e has U1 and V1 less by e, U2 and V2 greater by e.", TermsTest::widened);
        Document.says("The place of a region NEAREST to a place has the u of U1 .. U2 nearest to its u, the v of "
                + "V1 .. V2 nearest to its v.", TermsTest::nearest);
    }

    /** The root's region has u 4096 and v from -2048 to 2048: there alone a source needs no wire to it. */
    private static void regionOfPlaces() {
        EvenClock x = Checks.at(1, 1, 3, 3);
        for (int sourceX = 0; sourceX <= 5; sourceX++) {
            for (int sourceY = 0; sourceY <= 5; sourceY++) {
                x.source(sourceX, sourceY);
                x.build(0);
                boolean isWithin = sourceX + sourceY == 4 && Math.abs(sourceX - sourceY) <= 2;
                Checks.due(sourceX + ", " + sourceY, x.node(2, Checks.WIRE) == 0, isWithin);
            }
        }
        Checks.parts("root", x, 2, 0, 1, -1, 4096, 4096, -2048, 2048);
    }

    /** Tries all places of both that can be ends of the shortest way: all numbers are multiples of 512. */
    private static int leastApart(int[] a, int[] b) {
        int least = Integer.MAX_VALUE;
        for (int u = a[Checks.U1]; u <= a[Checks.U2]; u += 512) {
            for (int v = a[Checks.V1]; v <= a[Checks.V2]; v += 512) {
                for (int bu = b[Checks.U1]; bu <= b[Checks.U2]; bu += 512) {
                    for (int bv = b[Checks.V1]; bv <= b[Checks.V2]; bv += 512) {
                        least = Math.min(least, Math.max(Math.abs(u - bu), Math.abs(v - bv)));
                    }
                }
            }
        }
        return least;
    }

    /** Two pairs; where both wires are needed they are the distance together. */
    private static void regionsApart() {
        int[][] pairs = {
            {0, 0, 2, 2, 3, 0, 5, 4}, {0, 5, 3, 2, 4, 4, 6, 0}, {0, 0, 3, 3, 5, 9, 8, 6}, {0, 9, 2, 5, 3, 1, 4, 0},
            {0, 4, 2, 2, 4, 9, 6, 7}, {1, 9, 3, 9, 7, 0, 8, 3}, {0, 1, 1, 0, 2, 2, 3, 1}, {0, 0, 1, 1, 8, 8, 9, 9},
        };
        for (int[] xy : pairs) {
            pairsApart(Arrays.toString(xy), Checks.builtAt(1, xy));
        }
        // From end to end of both, in u and in v, each pair once the left one.
        int[][] farPairs = {
            {0, 1, 1, 0, 10, 11, 11, 10}, {10, 11, 11, 10, 0, 1, 1, 0}, {0, 10, 1, 11, 10, 0, 11, 1},
            {10, 0, 11, 1, 0, 10, 1, 11},
        };
        for (int[] xy : farPairs) {
            pairsApart(Arrays.toString(xy), Checks.builtAt(0, xy));
        }
    }

    private static void pairsApart(String what, EvenClock x) {
        int[][] nodes = Checks.nodes(x);
        int due = leastApart(nodes[4], nodes[5]);
        Checks.joins(what, x, nodes[4][0], nodes[4][1], nodes[5][0], nodes[5][1], 4, 5);
        Checks.due(what + ": both wires are needed",
                Math.abs(nodes[4][Checks.TIME] - nodes[5][Checks.TIME]) <= due, true);
        Checks.due(what, nodes[4][Checks.WIRE] + nodes[5][Checks.WIRE], due);
    }

    private static void widened() {
        // By 2048: the left one to u 2048, the right one from u 2048, both from v -2048 to 2048.
        Checks.parts("in u", Checks.builtAt(0, 0, 0, 2, 2), 2, 0, 1, -1, 2048, 2048, -2048, 2048);
        // By 2048: the left one from v 0, the right one to v 0, both from u 2048 to 6144.
        Checks.parts("in v", Checks.builtAt(0, 3, 1, 1, 3), 2, 0, 1, -1, 2048, 6144, 0, 0);
        // By 1536 each: from v -512 of the right one, that has v 1024, to v 1536 of the left one, that has v 0.
        Checks.parts("each its own", Checks.builtAt(0, 0, 0, 2, 1), 2, 0, 1, -1, 1536, 1536, -512, 1536);
    }

    private static void rootStands(EvenClock x, int sourceX, int sourceY, int u, int v) {
        x.source(sourceX, sourceY);
        x.build(0);
        Checks.due("u from " + sourceX + ", " + sourceY, x.node(2, Checks.U), u);
        Checks.due("v from " + sourceX + ", " + sourceY, x.node(2, Checks.V), v);
    }

    private static void nearest() {
        EvenClock upright = Checks.at(1, 1, 3, 3);
        rootStands(upright, 0, 9, 4096, -2048);
        rootStands(upright, 4, 5, 4096, -1024);
        rootStands(upright, 0, 0, 4096, 0);
        rootStands(upright, 9, 0, 4096, 2048);
        EvenClock flat = Checks.at(3, 1, 1, 3);
        rootStands(flat, 0, 0, 2048, 0);
        rootStands(flat, 0, 3, 3072, 0);
        rootStands(flat, 4, 1, 5120, 0);
        rootStands(flat, 9, 9, 6144, 0);
    }

    private static void nodes() {
        Document.says("A TREE has NODES: of n sinks 0 .. n - 1 are the sinks themselves, the others JOINS, "
                + "n .. 2n - 2, in the order in which they are made;", TermsTest::numbersOfNodes);
        Document.says("the last one is the ROOT (of one sink that itself).", TermsTest::root);
        Document.says("A node has a region and a TIME: of a sink its place alone, and 0.", TermsTest::regionAndTime);
    }

    private static void numbersOfNodes() {
        Checks.joins("way 0", Checks.builtAt(0, 0, 0, 9, 9, 1, 0, 9, 8), 0, 2, 1, 3, 4, 5);
        Checks.joins("way 1", Checks.builtAt(1, 0, 0, 9, 9, 1, 0, 9, 8), 0, 2, 3, 1, 4, 5);
        for (int n = 1; n <= 10; n++) {
            int[][] nodes = Checks.nodes(scattered(n, n % 2));
            for (int k = 0; k < 2 * n - 1; k++) {
                Checks.due(k + " is a sink of " + n, nodes[k][Checks.LEFT] == -1, k < n);
                Checks.due(k + " is made after its children", nodes[k][Checks.LEFT] < k && nodes[k][Checks.RIGHT] < k,
                        true);
            }
        }
    }

    private static void root() {
        for (int n = 1; n <= 10; n++) {
            int[][] nodes = Checks.nodes(scattered(n, n % 2));
            for (int k = 0; k < 2 * n - 1; k++) {
                Checks.due(k + " is the root of " + n, nodes[k][Checks.PARENT] == -1, k == 2 * n - 2);
            }
        }
    }

    private static void regionAndTime() {
        EvenClock x = scattered(10, 0);
        for (int k = 0; k < 10; k++) {
            int u = 1024 * (SCATTERED[2 * k] + SCATTERED[2 * k + 1]);
            int v = 1024 * (SCATTERED[2 * k] - SCATTERED[2 * k + 1]);
            Checks.parts("sink", x, k, -1, -1, x.node(k, Checks.PARENT), u, u, v, v, 0);
        }
        EvenClock grown = pair();
        Checks.parts("join", grown, 2, 0, 1, -1, 2048, 2048, -2048, 2048, 2048);
        grown.sink(5, 1, 1, 0);
        grown.build(0);
        Checks.parts("a sink where a join was", grown, 2, -1, -1, 4, 6144, 6144, 4096, 4096, 0);
    }

    private static void joining() {
        Document.says("TO JOIN two nodes, the LEFT one a and the RIGHT one b: d is the distance of their regions, s "
                + "and t their times.", TermsTest::leftAndRight);
        Document.says("If s is greater than d + t, the wire above a has length 0, that above b s - t;",
                TermsTest::leftIsLate);
        Document.says("if t is greater than d + s, the one above b 0, that above a t - s;", TermsTest::rightIsLate);
        Document.says("else that above a has (d + t - s) / 2 (which is a whole number), that above b the rest of d.",
                TermsTest::bothAreNeeded);
        Document.says("The join's region are the places that are in the regions of both, each widened by the length of "
                + "its wire;", TermsTest::regionOfBoth);
        Document.says("its time is s and the length above a.", TermsTest::timeOfJoin);
    }

    private static void wiresAre(EvenClock x, int join, int a, int aboveA, int b, int aboveB) {
        Checks.due("left", x.node(join, Checks.LEFT), a);
        Checks.due("right", x.node(join, Checks.RIGHT), b);
        Checks.due("above the left one", x.node(a, Checks.WIRE), aboveA);
        Checks.due("above the right one", x.node(b, Checks.WIRE), aboveB);
    }

    /** Sinks 0 and 1 are joined at 1, 0 with time 1024; d is 6144 from there to sink 2. */
    private static void leftAndRight() {
        EvenClock x = Checks.builtAt(0, 0, 0, 2, 0, 7, 0);
        Checks.parts("3", x, 3, 0, 1, 4, 1024, 1024, 1024, 1024, 1024);
        wiresAre(x, 4, 2, 3584, 3, 2560);
        x.build(1);
        wiresAre(x, 4, 3, 2560, 2, 3584);
    }

    private static void leftIsLate() {
        // s 4096, t 0 and d from 1024 on.
        wiresAre(Checks.builtAt(1, 0, 0, 0, 8, 1, 4), 4, 3, 0, 2, 4096);
        wiresAre(Checks.builtAt(1, 0, 0, 0, 8, 3, 4), 4, 3, 0, 2, 4096);
        wiresAre(Checks.builtAt(1, 0, 0, 0, 8, 5, 4), 4, 3, 512, 2, 4608);
        // s 3072, t 1024, d 1024.
        wiresAre(Checks.builtAt(1, 0, 0, 1, 5, 2, 1, 3, 2), 6, 4, 0, 5, 2048);
        EvenClock again = Checks.builtAt(0, 0, 0, 0, 8, 1, 4);
        Checks.due("by way 0 there is a wire", again.node(3, Checks.WIRE) > 0, true);
        again.build(1);
        wiresAre(again, 4, 3, 0, 2, 4096);
    }

    private static void rightIsLate() {
        // s 0, t 4096 and d from 1024 on.
        wiresAre(Checks.builtAt(1, 4, 4, 4, 4, 5, 0, 5, 8), 6, 4, 4096, 5, 0);
        wiresAre(Checks.builtAt(1, 2, 4, 2, 4, 5, 0, 5, 8), 6, 4, 4096, 5, 0);
        wiresAre(Checks.builtAt(1, 0, 4, 0, 4, 5, 0, 5, 8), 6, 4, 4608, 5, 512);
        // s 512, t 3072, d 1536.
        wiresAre(Checks.builtAt(1, 0, 0, 1, 0, 2, 3, 5, 0), 6, 4, 2560, 5, 0);
        EvenClock again = Checks.builtAt(0, 2, 4, 2, 4, 5, 0, 5, 8);
        Checks.due("by way 0 there is a wire", again.node(5, Checks.WIRE) > 0, true);
        again.build(1);
        wiresAre(again, 6, 4, 4096, 5, 0);
    }

    private static void bothAreNeeded() {
        wiresAre(Checks.builtAt(1, 0, 0, 5, 0), 2, 0, 2560, 1, 2560);
        // s 512, t 1536, d 7168.
        wiresAre(Checks.builtAt(1, 0, 0, 1, 0, 6, 0, 9, 0), 6, 4, 4096, 5, 3072);
        // s 1536, t 512, d 7168.
        wiresAre(Checks.builtAt(1, 0, 0, 3, 0, 8, 0, 9, 0), 6, 4, 3072, 5, 4096);
        // s 1536, t 2048, d 1536: t alone is greater than d.
        wiresAre(Checks.builtAt(1, 0, 1, 2, 0, 2, 4, 2, 0), 6, 4, 1024, 5, 512);
        // s 2048, t 1536, d 1536: s alone is greater than d.
        wiresAre(Checks.builtAt(1, 0, 0, 0, 4, 1, 3, 1, 0), 6, 4, 512, 5, 1024);
        // The nearest next one by one, each join in the middle of all before it: at 0.5, 1.5, 3.5 and 7.5.
        EvenClock halves = Checks.builtAt(0, 0, 0, 1, 0, 3, 0, 7, 0, 15, 0);
        wiresAre(halves, 5, 0, 512, 1, 512);
        wiresAre(halves, 6, 2, 1536, 5, 1024);
        wiresAre(halves, 7, 3, 3584, 6, 2048);
        wiresAre(halves, 8, 4, 7680, 7, 4096);
    }

    private static boolean isWithin(int[] region, int wider, int u, int v) {
        return region[Checks.U1] - wider <= u && u <= region[Checks.U2] + wider
                && region[Checks.V1] - wider <= v && v <= region[Checks.V2] + wider;
    }

    private static void regionOfBoth() {
        int[][] trees = {
            {0, 0, 2, 2, 2, 1}, {0, 0, 0, 8, 1, 4}, {0, 0, 2, 2, 3, 0, 5, 4}, {0, 0, 1, 5, 2, 1, 3, 2},
            {0, 4, 1, 3, 2, 1, 4, 0}, {0, 0, 1, 0, 2, 3, 5, 0},
        };
        for (int[] xy : trees) {
            int[][] nodes = Checks.nodes(Checks.builtAt(1, xy));
            for (int join = xy.length / 2; join < nodes.length; join++) {
                int[] a = nodes[nodes[join][Checks.LEFT]];
                int[] b = nodes[nodes[join][Checks.RIGHT]];
                for (int u = -8192; u <= 16384; u += 256) {
                    for (int v = -12288; v <= 12288; v += 256) {
                        boolean due = isWithin(a, a[Checks.WIRE], u, v) && isWithin(b, b[Checks.WIRE], u, v);
                        Checks.due("u " + u + ", v " + v + " is in " + join, isWithin(nodes[join], 0, u, v), due);
                    }
                }
            }
        }
    }

    private static void timeOfJoin() {
        Checks.due("2560 and none before", Checks.builtAt(1, 0, 0, 5, 0).node(2, Checks.TIME), 2560);
        Checks.due("512 and 4096", Checks.builtAt(1, 0, 0, 1, 0, 6, 0, 9, 0).node(6, Checks.TIME), 4608);
        Checks.due("4096 and 0", Checks.builtAt(1, 0, 0, 0, 8, 1, 4).node(4, Checks.TIME), 4096);
        Checks.due("0 and 4096", Checks.builtAt(1, 4, 4, 4, 4, 5, 0, 5, 8).node(6, Checks.TIME), 4096);
    }

    private static void ways() {
        Document.says("BY WAY 0 as long as there are several nodes that are not joined, two of these with the least "
                + "distance of their regions are joined,", TermsTest::nearestTwo);
        Document.says("of several pairs the one whose lesser number is least, then the other one;",
                TermsTest::severalPairs);
        Document.says("the lesser number is left.", TermsTest::lesserIsLeft);
        Document.says("BY WAY 1 a ROW of sinks is cut: one sink is itself;", TermsTest::rowOfOne);
        Document.says("else its sinks are put in order by x, if the row was cut an even number of times before (none "
                + "for the row of all), else by y", TermsTest::byXThenByY);
        Document.says("(those with the same one by the other of x and y, then by their numbers);",
                TermsTest::thoseWithTheSame);
        Document.says("the first half of them (the greater one, if they are odd) is cut and joined, then the rest, "
                + "then both joined, the first half left.", TermsTest::halves);
    }

    private static void nearestTwo() {
        Checks.joins("two sinks", Checks.builtAt(0, 0, 0, 5, 0, 9, 0, 12, 0), 2, 3, 0, 1, 4, 5);
        // The join of 1 and 2 is at 11, 0: sink 3 is nearer to it (3) than to sink 0 (14), and 0 than 3 then.
        Checks.joins("a join", Checks.builtAt(0, 0, 0, 10, 0, 12, 0, 14, 0), 1, 2, 3, 4, 0, 5);
        // The join of 0 and 1 has u 22528, v -2048 .. 2048: sink 2 is 4096 from it, and 5120 from sink 3.
        Checks.joins("a region", Checks.builtAt(0, 10, 10, 12, 12, 14, 8, 17, 10), 0, 1, 2, 4, 3, 5);
        Checks.due("one sink alone is not joined", Checks.at(7, 7).build(0), 1);
    }

    private static void severalPairs() {
        Checks.joins("0 with 3 before 1 with 2", Checks.builtAt(0, 0, 0, 9, 9, 9, 8, 1, 0), 0, 3, 1, 2, 4, 5);
        Checks.joins("1 with 2 before 1 with 3", Checks.builtAt(0, 0, 0, 9, 9, 9, 7, 9, 11), 1, 2, 3, 4, 0, 5);
        // All are 4096 apart, but 2048 from the first join.
        Checks.joins("2 with a join before 3 with it", Checks.builtAt(0, 0, 2, 2, 4, 4, 2, 2, 0), 0, 1, 2, 4, 3, 5);
    }

    private static void lesserIsLeft() {
        Checks.joins("of two sinks", Checks.builtAt(0, 9, 5, 0, 0), 0, 1);
        Checks.joins("of a sink and a join", Checks.builtAt(0, 0, 0, 1, 0, 5, 0), 0, 1, 2, 3);
        Checks.joins("of two joins", Checks.builtAt(0, 9, 0, 11, 0, 0, 0, 1, 0), 2, 3, 0, 1, 4, 5);
    }

    private static void rowOfOne() {
        EvenClock one = Checks.at(7, 3);
        Checks.due("of one", one.build(1), 1);
        Checks.parts("of one", one, 0, -1, -1, -1, 10240, 10240, 4096, 4096, 0, 10240, 10240, 4096);
        Checks.joins("the last of three", Checks.builtAt(1, 0, 0, 1, 1, 2, 2), 0, 1, 3, 2);
    }

    private static void byXThenByY() {
        Checks.joins("by x", Checks.builtAt(1, 5, 0, 4, 9), 1, 0);
        // By x 0, 1 | 2, 3; these by y 1, 0 and 3, 2.
        Checks.joins("then by y", Checks.builtAt(1, 0, 9, 1, 8, 2, 7, 3, 6), 1, 0, 3, 2, 4, 5);
        // By x 1, 2, 0 | 3, 4; by y 0, 1 | 2; by x 1, 0.
        Checks.joins("then by x", Checks.builtAt(1, 3, 0, 1, 1, 2, 5, 8, 0, 9, 0), 1, 0, 5, 2, 3, 4, 6, 7);
        // By x 3, 0, 1, 2, 4 | 5 .. 8; by y 1, 2, 0 | 3, 4; by x 0, 1 | 2; by y 1, 0.
        Checks.joins("then by y again", Checks.builtAt(1, 1, 3, 2, 1, 3, 2, 0, 8, 4, 9, 10, 0, 11, 0, 12, 1, 13, 1),
                1, 0, 9, 2, 3, 4, 10, 11, 5, 6, 7, 8, 13, 14, 12, 15);
    }

    private static void thoseWithTheSame() {
        Checks.joins("x: by y", Checks.builtAt(1, 5, 9, 5, 8), 1, 0);
        Checks.joins("x that is a y, too", Checks.builtAt(1, 5, 5, 5, 3), 1, 0);
        Checks.joins("x and y: by number", Checks.builtAt(1, 5, 7, 5, 5, 5, 5, 5, 6), 1, 2, 3, 0, 4, 5);
        // By x 2, 1, 0 | 4, 3; the first three have the same y: by x 2, 1 | 0.
        Checks.joins("y: by x", Checks.builtAt(1, 2, 5, 1, 5, 0, 5, 9, 5, 8, 5), 2, 1, 5, 0, 4, 3, 6, 7);
        // The first three have the same y, and 0 and 1 the same x, too.
        Checks.joins("y and x: by number", Checks.builtAt(1, 1, 5, 1, 5, 2, 5, 8, 5, 9, 5), 0, 1, 5, 2, 3, 4, 6, 7);
    }

    private static void halves() {
        Checks.joins("of four", Checks.builtAt(1, 0, 0, 90, 0, 199, 0, 200, 0), 0, 1, 2, 3, 4, 5);
        Checks.joins("of five", Checks.builtAt(1, 0, 0, 1, 1, 2, 2, 3, 3, 4, 4), 0, 1, 5, 2, 3, 4, 6, 7);
        Checks.joins("of seven", Checks.builtAt(1, 0, 0, 1, 1, 2, 2, 3, 3, 4, 4, 5, 5, 6, 6), 0, 1, 2, 3, 7, 8, 4, 5,
                10, 6, 9, 11);
        Checks.joins("against the numbers", Checks.builtAt(1, 9, 9, 8, 8, 1, 1, 0, 0), 3, 2, 1, 0, 4, 5);
    }

    private static void places() {
        Document.says("PLACES: the root stands at the place of its region nearest to the source;",
                TermsTest::whereTheRootStands);
        Document.says("any other node at that of its region nearest to where its parent stands.",
                TermsTest::whereOthersStand);
        Document.says("The wire above the root is as long as it is from the source.", TermsTest::wireAboveRoot);
    }

    /** Regions u 4096, v -4096 .. 0 and u 14336, v 6144 .. 10240; the root's is u 9216, v 1024 .. 5120. */
    private static EvenClock twoPairs(int sourceX, int sourceY) {
        EvenClock x = Checks.at(0, 2, 2, 4, 10, 2, 12, 4);
        x.source(sourceX, sourceY);
        x.build(0);
        Checks.parts("4", x, 4, 0, 1, 6, 4096, 4096, -4096, 0);
        Checks.parts("5", x, 5, 2, 3, 6, 14336, 14336, 6144, 10240);
        Checks.parts("6", x, 6, 4, 5, -1, 9216, 9216, 1024, 5120);
        return x;
    }

    private static void stands(EvenClock x, int k, int u, int v) {
        Checks.due("u of " + k, x.node(k, Checks.U), u);
        Checks.due("v of " + k, x.node(k, Checks.V), v);
    }

    private static void whereTheRootStands() {
        stands(twoPairs(0, 200), 6, 9216, 1024);
        stands(twoPairs(8, 5), 6, 9216, 3072);
        stands(twoPairs(200, 0), 6, 9216, 5120);
        EvenClock one = Checks.at(3, 1);
        one.source(100, 9);
        one.build(1);
        stands(one, 0, 4096, 2048);
    }

    private static void whereOthersStand() {
        EvenClock x = twoPairs(0, 200);
        stands(x, 4, 4096, 0);
        stands(x, 5, 14336, 6144);
        stands(x, 0, 2048, -2048);
        stands(x, 3, 16384, 8192);
        // Regions u 2048, v -2048 .. 2048 and u 14336, v 6144 .. 10240; the root is at u 8192, v 1024 of 0 .. 8192.
        EvenClock within = Checks.at(0, 0, 2, 2, 10, 2, 12, 4);
        within.source(200, 199);
        within.build(1);
        stands(within, 6, 8192, 1024);
        stands(within, 4, 2048, 1024);
        stands(within, 5, 14336, 6144);
    }

    private static void wireAboveRoot() {
        Checks.due("v is farther", twoPairs(0, 200).node(6, Checks.WIRE), 205824);
        Checks.due("u is farther", twoPairs(200, 200).node(6, Checks.WIRE), 400384);
        Checks.due("u is less", twoPairs(2, 0).node(6, Checks.WIRE), 7168);
        Checks.due("none", twoPairs(6, 3).node(6, Checks.WIRE), 0);
        Checks.due("of one sink", wireFrom(1, 5, 3, 1), 6144);
    }

    private static void wiresAndBuffers() {
        Document.says("THE TREE WITH WIRES: WIRES have a RESISTANCE r and a CAPACITY c (1 .. 20 each, at first 1),",
                TermsTest::whatWiresHave);
        Document.says("a BUFFER has an INPUT (1 .. 1000000), a DRIVE (1 .. 1000) and a DELAY (0 .. 1000000000), at "
                + "first 1, 1 and 0.", TermsTest::whatABufferHas);
        Document.says("A wire of length l has the resistance r * l and the capacity c * l.", TermsTest::ofLength);
        Document.says("At each join there is a buffer or not, at first (when the tree is built) none.",
                TermsTest::noneAtFirst);
    }

    private static void whatWiresHave() {
        EvenClock x = Checks.builtAt(0, 1, 0);
        Checks.due("at first", x.delay(0), 1024 * (1024 + 2048));
        x.wires(20, 20);
        Checks.due("greatest", x.delay(0), 20480 * (20480 + 2048));
        x.wires(1, 1);
        Checks.due("least", x.delay(0), 1024 * (1024 + 2048));
        Checks.refused("r under", Checks.ARGUMENT, () -> x.wires(0, 1));
        Checks.refused("r over", Checks.ARGUMENT, () -> x.wires(21, 1));
        Checks.refused("c under", Checks.ARGUMENT, () -> x.wires(1, 0));
        Checks.refused("c over", Checks.ARGUMENT, () -> x.wires(1, 21));
    }

    /** Two sinks where the source is: no wire, so that a delay is that of the buffer. */
    private static EvenClock bufferAlone() {
        EvenClock x = Checks.together(2);
        x.build(0);
        x.set(2, true);
        return x;
    }

    private static void whatABufferHas() {
        EvenClock x = bufferAlone();
        Checks.due("input at first", x.load(2, true), 1024);
        Checks.due("drive and delay at first", x.delay(0), 2 * 2048);
        x.buffer(1000000, 1000, 1000000000);
        Checks.due("greatest input", x.load(2, true), 1024000000);
        Checks.due("greatest drive and delay", x.delay(0), 1000000000 + 2000 * 2048);
        x.buffer(1, 1, 0);
        Checks.due("least input", x.load(2, true), 1024);
        Checks.due("least drive and delay", x.delay(0), 2 * 2048);
        Checks.refused("input under", Checks.ARGUMENT, () -> x.buffer(0, 1, 0));
        Checks.refused("input over", Checks.ARGUMENT, () -> x.buffer(1000001, 1, 0));
        Checks.refused("drive under", Checks.ARGUMENT, () -> x.buffer(1, 0, 0));
        Checks.refused("drive over", Checks.ARGUMENT, () -> x.buffer(1, 1001, 0));
        Checks.refused("delay under", Checks.ARGUMENT, () -> x.buffer(1, 1, -1));
        Checks.refused("delay over", Checks.ARGUMENT, () -> x.buffer(1, 1, 1000000001));
    }

    private static void ofLength() {
        EvenClock x = Checks.builtAt(0, 3, 0);
        x.wires(7, 1);
        Checks.due("resistance", x.delay(0), 7 * 3072 * (3072 + 2048));
        x.wires(1, 7);
        Checks.due("capacity", x.delay(0), 3072 * (7 * 3072 + 2048));
        EvenClock y = pair();
        y.wires(7, 3);
        Checks.due("capacity that is borne", y.load(2, false), 4096 + 3 * 4096);
    }

    private static void noneAtFirst() {
        EvenClock x = scattered(10, 0);
        Checks.due("in a new tree", x.setting(), 0);
        for (int join = 10; join < 19; join++) {
            Checks.due("or not", x.set(join, false), false);
            Checks.due("a buffer", x.set(join, true), true);
        }
        Checks.due("at each", x.setting(), 511);
        x.build(0);
        Checks.due("in the next tree", x.setting(), 0);
        Checks.due("what the root shows", x.load(18, true), x.load(18, false));
    }

    private static void loads() {
        Document.says("What a node BEARS: a sink 1024 times its load;", TermsTest::sinkBears);
        Document.says("a join the sum over its two children of what these SHOW and the capacities of the wires above "
                + "them.", TermsTest::joinBears);
        Document.says("What a node SHOWS: a join with a buffer 1024 times its input,", TermsTest::bufferShows);
        Document.says("any other node what it bears.", TermsTest::othersShow);
    }

    /**
     * Sinks at 0, 1 and 3 of a line with loads 1, 2 and 4. Wires: 512 above sinks 0 and 1, 1536 above sink 2, 1024
     * above join 3, 1536 above join 4, the root.
     */
    private static EvenClock line() {
        EvenClock x = new EvenClock();
        x.sink(0, 0, 1, 5);
        x.sink(1, 0, 2, 6);
        x.sink(3, 0, 4, 7);
        x.build(0);
        return x;
    }

    private static void sinkBears() {
        EvenClock x = line();
        x.wires(3, 9);
        Checks.due("load 1", x.load(0, false), 1024);
        Checks.due("load 2", x.load(1, false), 2048);
        Checks.due("load 4", x.load(2, false), 4096);
    }

    private static void joinBears() {
        EvenClock x = line();
        Checks.due("3", x.load(3, false), 1024 + 512 + 2048 + 512);
        Checks.due("4", x.load(4, false), 4096 + 1024 + 4096 + 1536);
        x.wires(5, 10);
        Checks.due("3, capacity 10", x.load(3, false), 1024 + 5120 + 2048 + 5120);
        Checks.due("4, capacity 10", x.load(4, false), 13312 + 10240 + 4096 + 15360);
        x.buffer(6, 1, 0);
        x.set(3, true);
        Checks.due("4, with a buffer at 3", x.load(4, false), 6144 + 10240 + 4096 + 15360);
        x.set(4, true);
        Checks.due("4, with one of its own", x.load(4, false), 6144 + 10240 + 4096 + 15360);
        x.build(1);
        x.set(3, true);
        Checks.due("4, whose left one is 3", x.load(4, false), 6144 + 10240 + 4096 + 15360);
    }

    private static void bufferShows() {
        EvenClock x = line();
        x.buffer(6, 1, 0);
        x.set(3, true);
        Checks.due("3", x.load(3, true), 6144);
        Checks.due("3 bears as before", x.load(3, false), 4096);
        x.set(4, true);
        Checks.due("4", x.load(4, true), 6144);
    }

    private static void othersShow() {
        EvenClock x = line();
        Checks.due("a sink", x.load(2, true), 4096);
        Checks.due("a join", x.load(3, true), 4096);
        Checks.due("the root", x.load(4, true), 10752);
        x.buffer(6, 1, 0);
        x.set(4, true);
        Checks.due("a join below a buffer", x.load(3, true), 4096);
        x.set(4, false);
        x.set(3, true);
        Checks.due("the root above one", x.load(4, true), 6144 + 1024 + 4096 + 1536);
    }

    private static void delays() {
        Document.says("The DELAY of a wire is its resistance times (its capacity and twice what the node below it "
                + "shows);", TermsTest::delayOfWire);
        Document.says("of a buffer its own delay and twice its drive times what its join bears.",
                TermsTest::delayOfBuffer);
        Document.says("The delay of a sink is the sum of those of all wires and buffers from the source to it (the "
                + "wire above the root and that above itself, too).", TermsTest::delayOfSink);
        Document.says("Its SLACK is 1048576 times its need less its delay;", TermsTest::slackOfSink);
        Document.says("that of the tree is the least one of its sinks.", TermsTest::slackOfTree);
    }

    private static void delayOfWire() {
        EvenClock x = new EvenClock();
        x.sink(2, 0, 5, 0);
        x.wires(3, 4);
        x.build(0);
        Checks.due("below it a sink", x.delay(0), 3 * 2048 * (4 * 2048 + 2 * 5120));
        EvenClock y = pair();
        int below = 2048 * (2048 + 2 * 1024);
        Checks.due("below it a join", y.delay(0), below + 2048 * (2048 + 2 * 8192));
        y.buffer(7, 1, 0);
        y.set(2, true);
        Checks.due("below it a buffer", y.delay(0), below + 2 * 8192 + 2048 * (2048 + 2 * 7168));
    }

    private static void delayOfBuffer() {
        EvenClock x = bufferAlone();
        x.buffer(50, 3, 11);
        Checks.due("3 and 11", x.delay(1), 11 + 2 * 3 * 2048);
        x.buffer(50, 4, 0);
        Checks.due("4 and none", x.delay(1), 2 * 4 * 2048);
    }

    private static void delayOfSink() {
        EvenClock x = line();
        int above0 = 512 * (512 + 2 * 1024);
        int above1 = 512 * (512 + 2 * 2048);
        int above2 = 1536 * (1536 + 2 * 4096);
        int above3 = 1024 * (1024 + 2 * 4096);
        int above4 = 1536 * (1536 + 2 * 10752);
        Checks.due("0", x.delay(0), above0 + above3 + above4);
        Checks.due("1", x.delay(1), above1 + above3 + above4);
        Checks.due("2", x.delay(2), above2 + above4);
        x.buffer(4, 5, 9);
        x.set(3, true);
        Checks.due("0 with a buffer at 3", x.delay(0), above0 + (9 + 10 * 4096) + above3 + above4);
        Checks.due("2 with a buffer elsewhere", x.delay(2), above2 + above4);
        x.set(4, true);
        int both = (9 + 10 * 10752) + 1536 * (1536 + 2 * 4096);
        Checks.due("1 with both", x.delay(1), above1 + (9 + 10 * 4096) + above3 + both);
        Checks.due("2 with the root's", x.delay(2), above2 + both);
    }

    private static long slackWithNeed(int need) {
        EvenClock x = new EvenClock();
        x.sink(1, 0, 1, need);
        x.build(0);
        return x.slack();
    }

    private static void slackOfSink() {
        Checks.due("no need", slackWithNeed(0), -3145728);
        Checks.due("a need of 3", slackWithNeed(3), 0);
        Checks.due("a need of 10", slackWithNeed(10), 7 * 1048576);
    }

    private static void slackOfTree() {
        Checks.due("of two", pair().slack(), 10 * 1048576 - 46137344);
        for (int least = 0; least < 10; least++) {
            EvenClock x = new EvenClock();
            for (int k = 0; k < 10; k++) {
                x.sink(0, 0, 1, k == least ? 40 : 50 + k);
            }
            x.build(least % 2);
            Checks.due("of ten, " + least + " the least", x.slack(), 40 * 1048576);
        }
    }

    private static void settings() {
        Document.says("A SETTING is a set of joins with buffers; its number is the sum of 1 << (join - n).",
                TermsTest::numberOfSetting);
        Document.says("The BEST one is that with the greatest slack of the tree,", TermsTest::greatestSlack);
        Document.says("of several the one with the least number.", TermsTest::leastNumber);
    }

    private static void numberOfSetting() {
        EvenClock x = scattered(10, 1);
        for (int i = 8; i >= 0; i--) {
            x.set(10 + i, true);
            Checks.due("from " + i + " on", x.setting(), 512 - (1 << i));
        }
        x.set(14, false);
        Checks.due("without 14", x.setting(), 511 - 16);
        EvenClock y = scattered(3, 1);
        y.set(4, true);
        Checks.due("of three sinks", y.setting(), 2);
    }

    private static void greatestSlack() {
        for (int n = 1; n <= 6; n++) {
            EvenClock x = Checks.at(Arrays.copyOf(SCATTERED, 2 * n));
            x.source(30, 40);
            x.buffer(2, 30, 5000000);
            x.build(n % 2);
            long greatest = x.slack();
            int best = 0;
            for (int number = 1; number < 1 << (n - 1); number++) {
                putSetting(x, number);
                best = x.slack() > greatest ? number : best;
                greatest = Math.max(greatest, x.slack());
            }
            Checks.due("best of " + n, x.best(), greatest);
            Checks.due("improve of " + n, x.improve(), best);
        }
    }

    private static void leastNumber() {
        long[] slacks = new long[8];
        for (int number = 0; number < 8; number++) {
            EvenClock x = four();
            putSetting(x, number);
            slacks[number] = x.slack();
            Checks.due("improve from " + number, x.improve(), 1);
        }
        Checks.due("2 is as good as 1", slacks[2], slacks[1]);
        Checks.due("3 is as good as 1", slacks[3], slacks[1]);
        Checks.due("0 is less good", slacks[0] < slacks[1], true);
        // A buffer at join 4 changes nothing for the worst sinks, 2 and 3; one at 5 helps these.
        EvenClock x = new EvenClock();
        x.sink(0, 0, 1, 1000000000);
        x.sink(0, 0, 1, 1000000000);
        x.sink(4, 0, 1, 0);
        x.sink(4, 0, 1, 0);
        x.source(2, 0);
        x.build(0);
        x.set(5, true);
        long with2 = x.slack();
        x.set(4, true);
        Checks.due("3 is as good as 2", x.slack(), with2);
        Checks.due("improve", x.improve(), 2);
    }

    private static void calls() {
        Document.says("sink, cut and source end the tree.", TermsTest::treeEnds);
        Document.says("A call that throws changes nothing;", TermsTest::nothingChanges);
        Document.says("where several exceptions that a call names fit, it is the one that it names first.",
                TermsTest::firstNamed);
        Document.says("All numbers stay within a long.", TermsTest::withinALong);
    }

    private static void treeEnds() {
        EvenClock x = pair();
        x.sink(1, 1, 1, 1);
        Checks.noTree("sink", x);
        x.build(0);
        x.cut(2);
        Checks.noTree("cut", x);
        x.build(0);
        x.cut(2);
        Checks.noTree("cut to all of them", x);
        x.build(0);
        x.source(0, 1);
        Checks.noTree("source", x);
        x.build(1);
        x.source(0, 1);
        Checks.noTree("source where it was", x);
        x.build(1);
        x.wires(2, 2);
        x.buffer(2, 2, 2);
        x.sinks();
        Checks.due("no other call does", Checks.hasTree(x), true);
    }

    private static EvenClock tenWithBuffers() {
        EvenClock x = scattered(10, 0);
        x.wires(2, 3);
        x.buffer(4, 5, 6);
        x.set(12, true);
        x.set(18, true);
        return x;
    }

    private static void refuseAll(EvenClock x) {
        Checks.refused("sink", Checks.ARGUMENT, () -> x.sink(1, 1, 1, -1));
        Checks.refused("eleventh", Checks.FULL, () -> x.sink(1, 1, 1, 1));
        Checks.refused("cut", Checks.ARGUMENT, () -> x.cut(-1));
        Checks.refused("cut over", Checks.ARGUMENT, () -> x.cut(11));
        Checks.refused("source", Checks.ARGUMENT, () -> x.source(7, 201));
        Checks.refused("wires", Checks.ARGUMENT, () -> x.wires(7, 21));
        Checks.refused("buffer", Checks.ARGUMENT, () -> x.buffer(7, 7, -1));
        Checks.refused("build", Checks.ARGUMENT, () -> x.build(2));
        Checks.refused("node", Checks.INDEX, () -> x.node(19, 0));
        Checks.refused("depth", Checks.INDEX, () -> x.depth(10));
        Checks.refused("set", Checks.INDEX, () -> x.set(9, true));
        Checks.refused("taken away", Checks.INDEX, () -> x.set(19, false));
        Checks.refused("load", Checks.INDEX, () -> x.load(19, true));
        Checks.refused("delay", Checks.INDEX, () -> x.delay(10));
    }

    private static void nothingChanges() {
        EvenClock x = tenWithBuffers();
        refuseAll(x);
        Checks.same("with a tree", Checks.story(x), Checks.story(tenWithBuffers()));
        EvenClock none = new EvenClock();
        Checks.refused("build of none", Checks.EMPTY, () -> none.build(0));
        Checks.noTree("of none", none);
        Checks.same("without sinks", Checks.story(none), Checks.story(new EvenClock()));
    }

    private static void firstNamed() {
        EvenClock full = Checks.together(10);
        Checks.refused("sink: not as said, and ten", Checks.ARGUMENT, () -> full.sink(0, 0, 0, 0));
        EvenClock none = new EvenClock();
        Checks.refused("build: no way, and no sink", Checks.ARGUMENT, () -> none.build(2));
        Checks.refused("node: no tree, and no node", Checks.STATE, () -> none.node(0, 0));
        Checks.refused("node: no tree, and no part", Checks.STATE, () -> full.node(0, 11));
        Checks.refused("depth: no tree, and no sink", Checks.STATE, () -> none.depth(0));
        Checks.refused("set: no tree, and no join", Checks.STATE, () -> none.set(0, true));
        Checks.refused("load: no tree, and no node", Checks.STATE, () -> none.load(0, true));
        Checks.refused("delay: no tree, and no sink", Checks.STATE, () -> none.delay(0));
    }

    private static void withinALong() {
        EvenClock x = new EvenClock();
        x.wires(20, 20);
        x.buffer(1000000, 1000, 1000000000);
        x.sink(0, 0, 100, 1000000000);
        x.sink(200, 200, 100, 1000000000);
        x.source(200, 0);
        x.build(0);
        // Wires of 204800 to both sinks, none above the root.
        long wire = 20L * 204800 * (20L * 204800 + 2 * 102400);
        Checks.due("great delay", x.delay(0), wire);
        x.set(2, true);
        long bears = 2 * (102400 + 20L * 204800);
        Checks.due("great delay with a buffer", x.delay(1), wire + 1000000000 + 2000 * bears);
        x.source(0, 0);
        x.build(0);
        x.set(2, true);
        long above = 20L * 204800 * (20L * 204800 + 2 * 1024000000L);
        Checks.due("great slack", x.slack(), 1048576000000000L - (wire + above + 1000000000 + 2000 * bears));
    }
}
