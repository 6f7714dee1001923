/**
 * For each sentence of the tree's terms that names a boundary case, a test of its own: what is left where
 * several are alike, rows of an odd number, one sink and ten, wires that just reach and just do not.
 */
public final class TreeBoundsTest {
    public static void main(String[] args) {
        ofPlaces();
        ofNodes();
        ofJoining();
        ofWayZero();
        ofWayOne();
        ofStanding();
        ofLengthAndDepth();
        Checks.finish();
    }

    private static void ofPlaces() {
        Checks.sentence("Terms: u and v are 1024 * (x + y) and 1024 * (x - y)", TreeBoundsTest::corners);
        Checks.sentence("Terms: the distance is the greater of the differences", TreeBoundsTest::greaterDifference);
        Checks.sentence("Terms: .. (without sign)", TreeBoundsTest::withoutSign);
        Checks.sentence("Terms: the distance of two regions is the least one of two of their places",
                TreeBoundsTest::regionsApart);
    }

    private static void corners() {
        Checks.parts("0, 0", Checks.builtAt(0, 0, 0), 0, -1, -1, -1, 0, 0, 0, 0);
        Checks.parts("200, 0", Checks.builtAt(0, 200, 0), 0, -1, -1, -1, 204800, 204800, 204800, 204800);
        Checks.parts("0, 200", Checks.builtAt(0, 0, 200), 0, -1, -1, -1, 204800, 204800, -204800, -204800);
        Checks.parts("200, 200", Checks.builtAt(0, 200, 200), 0, -1, -1, -1, 409600, 409600, 0, 0);
    }

    private static void distanceIs(int x, int y, int fromX, int fromY, int due) {
        EvenClock clock = Checks.at(x, y);
        clock.source(fromX, fromY);
        clock.build(0);
        Checks.due("wire to " + x + ", " + y + " from " + fromX + ", " + fromY, clock.node(0, Checks.WIRE), due);
    }

    private static void greaterDifference() {
        distanceIs(5, 5, 5, 5, 0);
        distanceIs(6, 6, 5, 5, 2048);
        distanceIs(6, 4, 5, 5, 2048);
        distanceIs(6, 5, 5, 5, 1024);
        distanceIs(8, 6, 5, 5, 4096);
        distanceIs(200, 200, 0, 0, 409600);
        distanceIs(200, 0, 0, 200, 409600);
    }

    private static void withoutSign() {
        distanceIs(4, 4, 5, 5, 2048);
        distanceIs(4, 6, 5, 5, 2048);
        distanceIs(5, 4, 5, 5, 1024);
        distanceIs(4, 5, 5, 5, 1024);
        distanceIs(0, 0, 200, 200, 409600);
        distanceIs(0, 200, 200, 0, 409600);
    }

    /** Two pairs, cut by x. The wires above the two joins together are the distance if both are needed. */
    private static void pairsApart(String what, int due, int... xy) {
        EvenClock x = Checks.builtAt(1, xy);
        Checks.due(what, x.node(4, Checks.WIRE) + x.node(5, Checks.WIRE), due);
    }

    /** Two pairs of near sinks, both ways round: each pair is once the left one. */
    private static void bothWaysRound(String what, int due, int... xy) {
        int[] turned = {xy[4], xy[5], xy[6], xy[7], xy[0], xy[1], xy[2], xy[3]};
        for (int[] places : new int[][] {xy, turned}) {
            EvenClock x = Checks.builtAt(0, places);
            Checks.joins(what, x, 0, 1, 2, 3, 4, 5);
            Checks.due(what, x.node(4, Checks.WIRE) + x.node(5, Checks.WIRE), due);
        }
    }

    private static void regionsApart() {
        // u 1024, v -1024 .. 1024 and u 3584, v 512 .. 2560: apart in u alone.
        pairsApart("beside one another", 2560, 0, 0, 1, 1, 2, 0, 3, 2);
        // u 1536, v -1536 .. 512 and u 3584, v 512 .. 2560: the last v of one is the first of the other.
        pairsApart("beside with one v alike", 2048, 0, 0, 1, 2, 2, 0, 3, 2);
        // u 0 .. 2048, v 0 and u 2048 .. 4096, v 2048: the last u of one is the first of the other.
        pairsApart("above with one u alike", 2048, 0, 1, 1, 0, 2, 1, 3, 0);
        // u 1024 .. 3072, v -1024 and u 2048 .. 4096, v 2048: apart in v alone.
        pairsApart("above one another", 3072, 0, 2, 1, 1, 2, 1, 3, 0);
        // u 0 .. 2048, v 0 and u 3072 .. 5120, v 1024: as far in u as in v.
        pairsApart("from corner to corner", 1024, 0, 1, 1, 0, 2, 2, 3, 1);
        // u 512 .. 2560, v 512 and u 3072 .. 5120, v 3072: 512 in u, 2560 in v.
        pairsApart("the greater is v", 2560, 0, 1, 2, 0, 3, 1, 4, 0);
        // u 1536, v -1536 .. 512 and u 3072, v 1024 .. 3072: 1536 in u, 512 in v.
        pairsApart("the greater is u", 1536, 0, 0, 1, 2, 2, 0, 3, 1);
        // u 0 .. 2048 and 20480 .. 22528, v 0.
        bothWaysRound("from end to end in u", 18432, 0, 1, 1, 0, 10, 11, 11, 10);
        // v -11264 .. -9216 and 9216 .. 11264, u 11264.
        bothWaysRound("from end to end in v", 18432, 0, 10, 1, 11, 10, 0, 11, 1);
    }

    private static void ofNodes() {
        Checks.sentence("Terms: of n sinks 0 .. n - 1 are the sinks, n .. 2n - 2 joins", TreeBoundsTest::sinksAndJoins);
        Checks.sentence("Terms: the last one is the root; 9: -1 for the root", TreeBoundsTest::lastIsRoot);
        Checks.sentence("Terms: the root of one sink is that itself", TreeBoundsTest::oneSink);
        Checks.sentence("Terms: a sink's region is its place alone, its time 0", TreeBoundsTest::sinkRegion);
        Checks.sentence("Terms: ten sinks", TreeBoundsTest::tenSinks);
    }

    private static final int[] SPREAD = {20, 3, 0, 11, 7, 7, 200, 0, 13, 0, 0, 200, 7, 1, 199, 200, 90, 45, 7, 7};

    private static EvenClock spread(int n, int way) {
        return Checks.builtAt(way, java.util.Arrays.copyOf(SPREAD, 2 * n));
    }

    private static void sinksAndJoins() {
        for (int n = 1; n <= 10; n++) {
            for (int way = 0; way < 2; way++) {
                EvenClock x = spread(n, way);
                for (int k = 0; k < 2 * n - 1; k++) {
                    Checks.due("left of " + k + " is none, of " + n, x.node(k, Checks.LEFT) == -1, k < n);
                    Checks.due("right of " + k + " is none, of " + n, x.node(k, Checks.RIGHT) == -1, k < n);
                }
            }
        }
    }

    private static void lastIsRoot() {
        for (int n = 1; n <= 10; n++) {
            for (int way = 0; way < 2; way++) {
                EvenClock x = spread(n, way);
                for (int k = 0; k < 2 * n - 1; k++) {
                    int parent = x.node(k, Checks.PARENT);
                    Checks.due("no parent of " + k + " of " + n, parent == -1, k == 2 * n - 2);
                    Checks.due("a child of its parent", parent == -1 || x.node(parent, Checks.LEFT) == k
                            || x.node(parent, Checks.RIGHT) == k, true);
                }
            }
        }
    }

    private static void oneSink() {
        for (int way = 0; way < 2; way++) {
            EvenClock x = new EvenClock();
            x.sink(3, 1, 2, 50);
            x.source(1, 2);
            Checks.due("nodes", x.build(way), 1);
            Checks.parts("one", x, 0, -1, -1, -1, 4096, 4096, 2048, 2048, 0, 3072, 4096, 2048);
            Checks.due("length", x.length(), 3072);
            Checks.due("depth", x.depth(0), 0);
            Checks.due("setting", x.setting(), 0);
            Checks.due("bears", x.load(0, false), 2048);
            Checks.due("shows", x.load(0, true), 2048);
            Checks.due("delay", x.delay(0), 3072 * (3072 + 4096));
            Checks.due("slack", x.slack(), 50 * 1048576 - 3072 * (3072 + 4096));
            Checks.due("best", x.best(), 50 * 1048576 - 3072 * (3072 + 4096));
            Checks.due("improve", x.improve(), 0);
            Checks.refused("its own join", Checks.INDEX, () -> x.set(0, true));
        }
    }

    private static void sinkRegion() {
        for (int way = 0; way < 2; way++) {
            EvenClock x = spread(10, way);
            for (int k = 0; k < 10; k++) {
                int u = 1024 * (SPREAD[2 * k] + SPREAD[2 * k + 1]);
                int v = 1024 * (SPREAD[2 * k] - SPREAD[2 * k + 1]);
                int[] due = {u, u, v, v, 0};
                for (int part = Checks.U1; part <= Checks.TIME; part++) {
                    Checks.due("node(" + k + ", " + part + ")", x.node(k, part), due[part - Checks.U1]);
                }
                Checks.due("u it stands at", x.node(k, Checks.U), u);
                Checks.due("v it stands at", x.node(k, Checks.V), v);
            }
        }
    }

    private static void tenSinks() {
        EvenClock x = Checks.together(10);
        Checks.due("nodes by way 0", x.build(0), 19);
        Checks.joins("way 0", x, 0, 1, 2, 3, 4, 5, 6, 7, 8, 9, 10, 11, 12, 13, 14, 15, 16, 17);
        Checks.due("nodes by way 1", x.build(1), 19);
        Checks.joins("way 1", x, 0, 1, 10, 2, 3, 4, 11, 12, 5, 6, 14, 7, 8, 9, 15, 16, 13, 17);
    }

    private static void ofJoining() {
        Checks.sentence("To join: if s is greater than d + t", TreeBoundsTest::leftIsLate);
        Checks.sentence("To join: if t is greater than d + s", TreeBoundsTest::rightIsLate);
        Checks.sentence("To join: else (d + t - s) / 2, and the rest of d", TreeBoundsTest::bothReach);
        Checks.sentence("To join: .. (which is a whole number)", TreeBoundsTest::wholeNumbers);
        Checks.sentence("To join: d is 0", TreeBoundsTest::noDistance);
        Checks.sentence("To join: the region are the places in the regions of both, each widened",
                TreeBoundsTest::widened);
        Checks.sentence("To join: each end of the region is that of the one that ends first",
                TreeBoundsTest::endsOfRegion);
        Checks.sentence("What it is: the wire is as long to every sink", TreeBoundsTest::asLongToEverySink);
    }

    /**
     * Sinks 0 and 1 are joined at the place 0, 4 with time 4096; sink 2 is right of it, so many 1024 away.
     * Another tree stood before: nothing of its wires may be left.
     */
    private static void late(int away, int aboveLeft, int aboveRight) {
        EvenClock x = Checks.builtAt(0, 0, 0, 0, 8, away, 4);
        x.build(1);
        Checks.parts("left", x, 3, 0, 1, 4, 4096, 4096, -4096, -4096, 4096, aboveLeft);
        Checks.due("above the right one, d " + away, x.node(2, Checks.WIRE), aboveRight);
        Checks.due("time, d " + away, x.node(4, Checks.TIME), 4096 + aboveLeft);
        Checks.due("children", 10 * x.node(4, Checks.LEFT) + x.node(4, Checks.RIGHT), 32);
    }

    private static void leftIsLate() {
        late(1, 0, 4096);
        late(3, 0, 4096);
        late(4, 0, 4096);
        late(5, 512, 4608);
        // s 3072, t 1024, d 1024: u 3072, v -3072 .. -1024 and u 4096, v 0 .. 2048.
        EvenClock x = Checks.builtAt(1, 0, 0, 1, 5, 2, 1, 3, 2);
        Checks.parts("both have time", x, 4, 0, 1, 6, 3072, 3072, -3072, -1024, 3072, 0);
        Checks.parts("both have time", x, 5, 2, 3, 6, 4096, 4096, 0, 2048, 1024, 2048);
        Checks.parts("both have time", x, 6, 4, 5, -1, 3072, 3072, -2048, -1024, 3072);
    }

    /**
     * Sinks 0 and 1 are at one place; 2 and 3, right of it, are joined at the place 5, 4 with time 4096.
     * Another tree stood before here, too.
     */
    private static void lateRight(int x01, int aboveLeft, int aboveRight) {
        EvenClock x = Checks.builtAt(0, x01, 4, x01, 4, 5, 0, 5, 8);
        x.build(1);
        Checks.parts("right", x, 5, 2, 3, 6, 9216, 9216, 1024, 1024, 4096, aboveRight);
        Checks.due("above the left one from " + x01, x.node(4, Checks.WIRE), aboveLeft);
        Checks.due("time from " + x01, x.node(6, Checks.TIME), aboveLeft);
        Checks.due("children", 10 * x.node(6, Checks.LEFT) + x.node(6, Checks.RIGHT), 45);
    }

    private static void rightIsLate() {
        lateRight(4, 4096, 0);
        lateRight(2, 4096, 0);
        lateRight(1, 4096, 0);
        lateRight(0, 4608, 512);
        // s 512, t 3072, d 1536: u 512, v 512 and u 2048 .. 8192, v 2048.
        EvenClock x = Checks.builtAt(1, 0, 0, 1, 0, 2, 3, 5, 0);
        Checks.parts("both have time", x, 4, 0, 1, 6, 512, 512, 512, 512, 512, 2560);
        Checks.parts("both have time", x, 5, 3, 2, 6, 2048, 8192, 2048, 2048, 3072, 0);
        Checks.parts("both have time", x, 6, 4, 5, -1, 2048, 3072, 2048, 2048, 3072);
    }

    private static void bothReach() {
        EvenClock even = Checks.builtAt(1, 0, 0, 3, 0);
        Checks.due("half of an odd one", even.node(0, Checks.WIRE), 1536);
        Checks.due("the rest", even.node(1, Checks.WIRE), 1536);
        // s 512 and t 1536 at the places 0.5, 0 and 7.5, 0: d 7168.
        EvenClock right = Checks.builtAt(1, 0, 0, 1, 0, 6, 0, 9, 0);
        Checks.due("(7168 + 1536 - 512) / 2", right.node(4, Checks.WIRE), 4096);
        Checks.due("the rest of 7168", right.node(5, Checks.WIRE), 3072);
        Checks.due("time", right.node(6, Checks.TIME), 4608);
        // s 1536 and t 512 at the places 1.5, 0 and 8.5, 0: d 7168.
        EvenClock left = Checks.builtAt(1, 0, 0, 3, 0, 8, 0, 9, 0);
        Checks.due("(7168 + 512 - 1536) / 2", left.node(4, Checks.WIRE), 3072);
        Checks.due("the rest of 7168", left.node(5, Checks.WIRE), 4096);
        Checks.due("time", left.node(6, Checks.TIME), 4608);
    }

    /** On a line each join is in the middle of all: ten sinks that are joined one by one. */
    private static final int[] CHAIN = {0, 1, 3, 6, 11, 20, 35, 61, 105, 180};

    private static EvenClock chain(int way) {
        EvenClock x = new EvenClock();
        for (int place : CHAIN) {
            x.sink(place, 0, 1, 0);
        }
        x.build(way);
        return x;
    }

    private static void wholeNumbers() {
        EvenClock x = chain(0);
        Checks.joins("one by one", x, 0, 1, 2, 10, 3, 11, 4, 12, 5, 13, 6, 14, 7, 15, 8, 16, 9, 17);
        for (int k = 1; k < 10; k++) {
            int join = 9 + k;
            Checks.due("time of " + join, x.node(join, Checks.TIME), 512 * CHAIN[k]);
            Checks.due("wire above sink " + k, x.node(k, Checks.WIRE), 512 * CHAIN[k]);
            Checks.due("wire above " + join, x.node(join, Checks.WIRE),
                    k < 9 ? 512 * (CHAIN[k + 1] - CHAIN[k]) : 512 * CHAIN[9]);
            Checks.due("place of " + join, x.node(join, Checks.U1), 512 * CHAIN[k]);
        }
    }

    private static void noDistance() {
        EvenClock same = Checks.builtAt(0, 5, 5, 5, 5);
        Checks.parts("no wires", same, 2, 0, 1, -1, 10240, 10240, 0, 0, 0, 10240, 10240, 0);
        Checks.due("above 0", same.node(0, Checks.WIRE), 0);
        Checks.due("above 1", same.node(1, Checks.WIRE), 0);
        // The place u 0, v 0 is in the region u 0 .. 2048, v 0, whose time is 1024.
        EvenClock right = Checks.builtAt(1, 1, 0, 0, 1, 0, 0, 0, 0);
        Checks.parts("the right one is late", right, 4, 2, 3, 6, 0, 0, 0, 0, 0, 1024);
        Checks.parts("the right one is late", right, 5, 0, 1, 6, 0, 2048, 0, 0, 1024, 0);
        Checks.parts("the right one is late", right, 6, 4, 5, -1, 0, 1024, 0, 0, 1024);
        // The place u 2048, v 0 is in the same region.
        EvenClock left = Checks.builtAt(1, 1, 1, 1, 1, 1, 0, 0, 1);
        Checks.parts("the left one is late", left, 4, 2, 3, 6, 0, 2048, 0, 0, 1024, 0);
        Checks.parts("the left one is late", left, 5, 0, 1, 6, 2048, 2048, 0, 0, 0, 1024);
        Checks.parts("the left one is late", left, 6, 4, 5, -1, 1024, 2048, 0, 0, 1024);
    }

    private static void widened() {
        // Sinks 0, 0 and 2, 2: u is the middle alone, v is as wide as the wires are.
        Checks.parts("v is left free", Checks.builtAt(0, 0, 0, 2, 2), 2, 0, 1, -1, 2048, 2048, -2048, 2048, 2048);
        Checks.parts("u is left free", Checks.builtAt(0, 3, 1, 1, 3), 2, 0, 1, -1, 2048, 6144, 0, 0, 2048);
        Checks.parts("neither is", Checks.builtAt(0, 3, 0, 5, 0), 2, 0, 1, -1, 4096, 4096, 4096, 4096, 1024);
        Checks.parts("a little is", Checks.builtAt(0, 0, 0, 3, 1), 2, 0, 1, -1, 2048, 2048, 0, 2048, 2048);
        // The left one is widened by 512, the right one, at u 4096, v 0, by 2048.
        EvenClock x = Checks.builtAt(1, 0, 0, 2, 2, 2, 1);
        Checks.joins("cut", x, 0, 2, 3, 1);
        Checks.parts("of the first half", x, 3, 0, 2, 4, 1536, 1536, -512, 1536, 1536, 512);
        Checks.parts("of all", x, 4, 3, 1, -1, 2048, 2048, -1024, 2048, 2048);
        Checks.parts("near the edge", Checks.builtAt(0, 0, 1, 1, 0), 2, 0, 1, -1, 0, 2048, 0, 0, 1024);
        Checks.parts("from edge to edge", Checks.builtAt(0, 0, 200, 200, 0), 2, 0, 1, -1, 0, 409600, 0, 0, 204800);
        Checks.parts("from corner to corner", Checks.builtAt(0, 0, 0, 200, 200), 2, 0, 1, -1, 204800, 204800, -204800,
                204800, 204800);
    }

    /** Two pairs, cut by x: the lengths above their joins, then U1, U2, V1, V2 of the root. */
    private static void rootOf(String what, EvenClock x, int... due) {
        Checks.due(what + ": above 4", x.node(4, Checks.WIRE), due[0]);
        Checks.due(what + ": above 5", x.node(5, Checks.WIRE), due[1]);
        for (int part = Checks.U1; part <= Checks.V2; part++) {
            Checks.due(what + ": part " + part, x.node(6, part), due[part - 1]);
        }
    }

    private static void endsOfRegion() {
        // u 1536 - 1024 .. 3584 + 1024 within u 2560 - 3072 .. 2560 + 3072.
        rootOf("both of u of the left", Checks.builtAt(1, 0, 4, 1, 0, 2, 0, 3, 0), 1024, 3072, 512, 4608, -512, -512);
        // u 512 - 1024 .. 2560 + 1024 and u 2048 - 1536 .. 4096 + 1536.
        rootOf("U2 of the left", Checks.builtAt(1, 0, 2, 1, 0, 2, 1, 3, 0), 1024, 1536, 512, 3584, 512, 512);
        // u 3072 - 3072 .. 5120 + 3072 and u 2560 - 2560 .. 4608 + 2560.
        rootOf("U2 of the right", Checks.builtAt(1, 0, 4, 1, 3, 2, 1, 4, 0), 3072, 2560, 0, 7168, 0, 0);
        // v -1536 - 2048 .. 512 + 2048 and v -2048 - 2560 .. 0 + 2560.
        rootOf("V1 of the left", Checks.builtAt(1, 0, 0, 1, 2, 2, 3, 3, 4), 2048, 2560, 3584, 3584, -3584, 2560);
        // v -1536 - 512 .. 512 + 512 and v 1024 - 1024 .. 3072 + 1024.
        rootOf("V2 of the left", Checks.builtAt(1, 0, 0, 1, 2, 2, 0, 3, 1), 512, 1024, 2048, 2048, 0, 1024);
        // v -512 - 1024 .. 1536 + 1024 within v 512 - 3072 .. 512 + 3072.
        rootOf("both of v of the right", Checks.builtAt(1, 0, 0, 1, 0, 2, 0, 3, 4), 3072, 1024, 3584, 3584, -1536,
                2560);
    }

    private static void asLongToEverySink() {
        for (int n = 2; n <= 10; n++) {
            for (int way = 0; way < 2; way++) {
                EvenClock x = spread(n, way);
                int[] parent = all(x, Checks.PARENT);
                int[] wire = all(x, Checks.WIRE);
                int[] time = all(x, Checks.TIME);
                for (int sink = 0; sink < n; sink++) {
                    asLongAsTime(sink, parent, wire, time);
                }
            }
        }
    }

    private static int[] all(EvenClock x, int part) {
        int[] values = new int[2 * x.sinks() - 1];
        for (int k = 0; k < values.length; k++) {
            values[k] = x.node(k, part);
        }
        return values;
    }

    private static void asLongAsTime(int sink, int[] parent, int[] wire, int[] time) {
        int sum = 0;
        for (int k = sink; parent[k] != -1; k = parent[k]) {
            sum += wire[k];
            Checks.due("from " + parent[k] + " to " + sink + " of " + parent.length, sum, time[parent[k]]);
        }
    }

    private static void ofWayZero() {
        Checks.sentence("Way 0: as long as there are several nodes that are not joined", TreeBoundsTest::several);
        Checks.sentence("Way 0: two of these with the least distance", TreeBoundsTest::leastDistance);
        Checks.sentence("Way 0: of several pairs the one whose lesser number is least", TreeBoundsTest::lesserNumber);
        Checks.sentence("Way 0: then the other one", TreeBoundsTest::otherNumber);
        Checks.sentence("Way 0: the lesser number is left", TreeBoundsTest::lesserIsLeft);
    }

    private static void several() {
        Checks.due("one: none is joined", Checks.together(1).build(0), 1);
        EvenClock two = Checks.builtAt(0, 9, 9, 0, 0);
        Checks.joins("two", two, 0, 1);
        EvenClock three = Checks.builtAt(0, 0, 0, 0, 0, 0, 0);
        Checks.joins("three: the joined ones are not joined again", three, 0, 1, 2, 3);
    }

    private static void leastDistance() {
        Checks.joins("by 1024 less", Checks.builtAt(0, 0, 0, 2, 0, 9, 0, 10, 0), 2, 3, 0, 1, 4, 5);
        Checks.joins("as far", Checks.builtAt(0, 0, 0, 1, 0, 9, 0, 10, 0), 0, 1, 2, 3, 4, 5);
        // The join of 0 and 1 is at 1, 0: sink 2 is 4096 from it, and 5120 from sink 3.
        Checks.joins("a join is nearer than a sink", Checks.builtAt(0, 0, 0, 2, 0, 5, 0, 10, 0), 0, 1, 2, 4, 3, 5);
        Checks.joins("none is farther than 400", Checks.builtAt(0, 0, 0, 200, 200), 0, 1);
        // The join of 0 and 1 has u 22528, v -2048 .. 2048: sink 2 is 4096 from it (6144 from its middle), and
        // 5120 from sink 3.
        Checks.joins("of a region, not of its middle", Checks.builtAt(0, 10, 10, 12, 12, 14, 8, 17, 10), 0, 1, 2, 4,
                3, 5);
    }

    private static void lesserNumber() {
        Checks.joins("0 with 3 before 1 with 2", Checks.builtAt(0, 0, 0, 9, 9, 9, 8, 1, 0), 0, 3, 1, 2, 4, 5);
        Checks.joins("the first of all", Checks.builtAt(0, 9, 0, 0, 0, 1, 0, 10, 0), 0, 3, 1, 2, 4, 5);
        // All are 4096 apart, but 2048 from the first join.
        Checks.joins("2 with a join before 3", Checks.builtAt(0, 0, 2, 2, 4, 4, 2, 2, 0), 0, 1, 2, 4, 3, 5);
    }

    private static void otherNumber() {
        Checks.joins("1 before 2", Checks.builtAt(0, 5, 5, 5, 7, 5, 3), 0, 1, 2, 3);
        Checks.joins("1 before 2, the other side", Checks.builtAt(0, 5, 5, 5, 3, 5, 7), 0, 1, 2, 3);
        // Sink 2 at 3, 0 is 2048 from the join 4 at 1, 0, and from sink 3 at 5, 0.
        Checks.joins("a sink before a join", Checks.builtAt(0, 1, 0, 1, 0, 3, 0, 5, 0), 0, 1, 2, 3, 4, 5);
        Checks.joins("in the order of the numbers", Checks.builtAt(0, 7, 7, 7, 7, 7, 7, 7, 7, 7, 7), 0, 1, 2, 3, 4, 5,
                6, 7);
    }

    private static void lesserIsLeft() {
        Checks.joins("right of the other", Checks.builtAt(0, 9, 0, 0, 0), 0, 1);
        Checks.joins("a sink is left of a join", Checks.builtAt(0, 0, 0, 1, 0, 5, 0), 0, 1, 2, 3);
        Checks.joins("of two joins the first one", Checks.builtAt(0, 9, 0, 10, 0, 0, 0, 1, 0), 0, 1, 2, 3, 4, 5);
    }

    private static void ofWayOne() {
        Checks.sentence("Way 1: one sink is itself", TreeBoundsTest::rowOfOne);
        Checks.sentence("Way 1: in order by x, if the row was cut an even number of times (none)",
                TreeBoundsTest::firstCut);
        Checks.sentence("Way 1: else by y (once)", TreeBoundsTest::secondCut);
        Checks.sentence("Way 1: by x (twice)", TreeBoundsTest::thirdCut);
        Checks.sentence("Way 1: by y (three times)", TreeBoundsTest::fourthCut);
        Checks.sentence("Way 1: those with the same x by y, then by their numbers", TreeBoundsTest::sameX);
        Checks.sentence("Way 1: those with the same y by x, then by their numbers", TreeBoundsTest::sameY);
        Checks.sentence("Way 1: the first half (the greater one, if they are odd)", TreeBoundsTest::oddRows);
        Checks.sentence("Way 1: rows of an even number", TreeBoundsTest::evenRows);
        Checks.sentence("Way 1: the first half is cut and joined, then the rest, then both; the first half left",
                TreeBoundsTest::firstHalfFirst);
    }

    private static void rowOfOne() {
        EvenClock x = Checks.together(1);
        Checks.due("nodes", x.build(1), 1);
        Checks.joins("of three the last is alone", Checks.builtAt(1, 0, 0, 1, 1, 2, 2), 0, 1, 3, 2);
    }

    private static void firstCut() {
        Checks.joins("x against y", Checks.builtAt(1, 5, 0, 4, 9), 1, 0);
        Checks.joins("x with y", Checks.builtAt(1, 4, 0, 5, 9), 0, 1);
        Checks.joins("from end to end", Checks.builtAt(1, 200, 0, 0, 200), 1, 0);
    }

    private static void secondCut() {
        Checks.joins("the first half", Checks.builtAt(1, 0, 9, 1, 8, 2, 0), 1, 0, 3, 2);
        Checks.joins("the rest", Checks.builtAt(1, 0, 0, 1, 1, 5, 9, 6, 2), 0, 1, 3, 2, 4, 5);
    }

    private static void thirdCut() {
        // By x 1, 2, 0 | 3, 4; by y 0, 1 | 2; by x 1, 0.
        Checks.joins("the first half", Checks.builtAt(1, 3, 0, 1, 1, 2, 5, 8, 0, 9, 0), 1, 0, 5, 2, 3, 4, 6, 7);
        // By x 5, 4, 3 | 2, 1, 0; the rest by y 0, 1 | 2, these by x 1, 0.
        Checks.joins("the rest", Checks.builtAt(1, 9, 0, 8, 1, 7, 5, 2, 2, 1, 1, 0, 0), 5, 4, 6, 3, 1, 0, 8, 2, 7, 9);
    }

    private static void fourthCut() {
        // By x 3, 0, 1, 2, 4 | 5 .. 8; by y 1, 2, 0 | 3, 4; by x 0, 1 | 2; by y 1, 0.
        Checks.joins("of nine", Checks.builtAt(1, 1, 3, 2, 1, 3, 2, 0, 8, 4, 9, 10, 0, 11, 0, 12, 1, 13, 1),
                1, 0, 9, 2, 3, 4, 10, 11, 5, 6, 7, 8, 13, 14, 12, 15);
        // Of ten the rest has five, too: by y 6, 7, 5 | 8, 9; by x 5, 6 | 7; by y 6, 5.
        Checks.joins("of ten", Checks.builtAt(1, 0, 0, 1, 1, 2, 2, 3, 3, 4, 4, 11, 3, 12, 1, 13, 2, 10, 8, 14, 9),
                0, 1, 10, 2, 3, 4, 11, 12, 6, 5, 14, 7, 8, 9, 15, 16, 13, 17);
    }

    private static void sameX() {
        Checks.joins("by y against the numbers", Checks.builtAt(1, 5, 9, 5, 8), 1, 0);
        Checks.joins("by y with the numbers", Checks.builtAt(1, 5, 8, 5, 9), 0, 1);
        Checks.joins("by their numbers", Checks.builtAt(1, 5, 5, 5, 5), 0, 1);
        // 1 and 2 are at one place, in the middle: the lesser number comes into the first half.
        Checks.joins("four in a line", Checks.builtAt(1, 5, 9, 5, 7, 5, 7, 5, 1), 3, 1, 2, 0, 4, 5);
    }

    private static void sameY() {
        // By x 1, 0 | 2; the first two have the same y: by x 1, 0.
        Checks.joins("by x against the numbers", Checks.builtAt(1, 1, 3, 0, 3, 9, 9), 1, 0, 3, 2);
        Checks.joins("by x with the numbers", Checks.builtAt(1, 0, 3, 1, 3, 9, 9), 0, 1, 3, 2);
        Checks.joins("by their numbers", Checks.builtAt(1, 1, 3, 1, 3, 9, 9), 0, 1, 3, 2);
        // By x 2, 1, 0 | 3, 4; the first three have the same y: by x 2, 1 | 0.
        Checks.joins("two of three", Checks.builtAt(1, 2, 0, 1, 0, 0, 0, 8, 0, 9, 0), 2, 1, 5, 0, 3, 4, 6, 7);
    }

    private static void oddRows() {
        Checks.joins("3", inARow(3), 0, 1, 3, 2);
        Checks.joins("5", inARow(5), 0, 1, 5, 2, 3, 4, 6, 7);
        Checks.joins("7", inARow(7), 0, 1, 2, 3, 7, 8, 4, 5, 10, 6, 9, 11);
        Checks.joins("9", inARow(9), 0, 1, 9, 2, 3, 4, 10, 11, 5, 6, 7, 8, 13, 14, 12, 15);
    }

    private static void evenRows() {
        Checks.joins("2", inARow(2), 0, 1);
        Checks.joins("4", inARow(4), 0, 1, 2, 3, 4, 5);
        Checks.joins("6", inARow(6), 0, 1, 6, 2, 3, 4, 8, 5, 7, 9);
        Checks.joins("8", inARow(8), 0, 1, 2, 3, 8, 9, 4, 5, 6, 7, 11, 12, 10, 13);
        Checks.joins("10", inARow(10), 0, 1, 10, 2, 3, 4, 11, 12, 5, 6, 14, 7, 8, 9, 15, 16, 13, 17);
    }

    /** Sinks that are in order of their numbers by x and by y. */
    private static EvenClock inARow(int n) {
        EvenClock x = new EvenClock();
        for (int k = 0; k < n; k++) {
            x.sink(3 * k, 2 * k, 1, 0);
        }
        x.build(1);
        return x;
    }

    private static void firstHalfFirst() {
        // The rest is nearer to one another, but is joined after the first half.
        Checks.joins("far first", Checks.builtAt(1, 0, 0, 90, 0, 199, 0, 200, 0), 0, 1, 2, 3, 4, 5);
        // Sinks with greater numbers have less x: they are left.
        Checks.joins("against the numbers", Checks.builtAt(1, 9, 9, 8, 8, 1, 1, 0, 0), 3, 2, 1, 0, 4, 5);
    }

    private static void ofStanding() {
        Checks.sentence("Terms: nearest: the v of V1 .. V2 nearest", TreeBoundsTest::nearestV);
        Checks.sentence("Terms: nearest: the u of U1 .. U2 nearest", TreeBoundsTest::nearestU);
        Checks.sentence("Places: any other node nearest to where its parent stands", TreeBoundsTest::nearParent);
        Checks.sentence("Places: the wire above the root is as long as it is from the source",
                TreeBoundsTest::rootWire);
        Checks.sentence("Places: a source in the root's region", TreeBoundsTest::sourceInRegion);
    }

    private static void rootStands(EvenClock x, int sourceX, int sourceY, int u, int v) {
        x.source(sourceX, sourceY);
        x.build(0);
        Checks.due("u from " + sourceX + ", " + sourceY, x.node(2, Checks.U), u);
        Checks.due("v from " + sourceX + ", " + sourceY, x.node(2, Checks.V), v);
    }

    /** The root's region: u 4096, v -2048 .. 2048. */
    private static void nearestV() {
        EvenClock x = Checks.at(1, 1, 3, 3);
        rootStands(x, 0, 200, 4096, -2048);
        rootStands(x, 0, 3, 4096, -2048);
        rootStands(x, 0, 2, 4096, -2048);
        rootStands(x, 0, 1, 4096, -1024);
        rootStands(x, 5, 5, 4096, 0);
        rootStands(x, 1, 0, 4096, 1024);
        rootStands(x, 2, 0, 4096, 2048);
        rootStands(x, 3, 0, 4096, 2048);
        rootStands(x, 200, 0, 4096, 2048);
    }

    /** The root's region: u 2048 .. 6144, v 0. */
    private static void nearestU() {
        EvenClock x = Checks.at(3, 1, 1, 3);
        rootStands(x, 0, 0, 2048, 0);
        rootStands(x, 0, 1, 2048, 0);
        rootStands(x, 1, 1, 2048, 0);
        rootStands(x, 1, 2, 3072, 0);
        rootStands(x, 2, 3, 5120, 0);
        rootStands(x, 3, 3, 6144, 0);
        rootStands(x, 3, 4, 6144, 0);
        rootStands(x, 200, 200, 6144, 0);
    }

    /** Regions u 4096, v -4096 .. 0 and u 14336, v 6144 .. 10240; the root's is u 9216, v 1024 .. 5120. */
    private static void nearParent() {
        EvenClock x = Checks.at(0, 2, 2, 4, 10, 2, 12, 4);
        x.source(0, 200);
        x.build(0);
        Checks.due("the root is at its least v", x.node(6, Checks.V), 1024);
        Checks.due("not at the source's side, but at the root's", x.node(4, Checks.V), 0);
        Checks.due("u of the left one", x.node(4, Checks.U), 4096);
        Checks.due("at its least v", x.node(5, Checks.V), 6144);
        Checks.due("u of the right one", x.node(5, Checks.U), 14336);
        // Regions u 2048, v -2048 .. 2048 and u 14336, v 6144 .. 10240; the root is at u 8192, v 0 .. 8192.
        EvenClock within = Checks.at(0, 0, 2, 2, 10, 2, 12, 4);
        within.source(200, 199);
        within.build(1);
        Checks.due("the root within", within.node(6, Checks.V), 1024);
        Checks.due("the left one as the root", within.node(4, Checks.V), 1024);
        Checks.due("the right one at its least", within.node(5, Checks.V), 6144);
    }

    private static void rootWire() {
        EvenClock x = Checks.at(1, 1, 3, 3);
        x.source(0, 200);
        x.build(0);
        Checks.due("v is farther: 204800 - 2048", x.node(2, Checks.WIRE), 202752);
        x.source(200, 200);
        x.build(0);
        Checks.due("u is farther: 409600 - 4096", x.node(2, Checks.WIRE), 405504);
        x.source(0, 0);
        x.build(0);
        Checks.due("u is less", x.node(2, Checks.WIRE), 4096);
        x.source(200, 0);
        x.build(0);
        Checks.due("v is greater", x.node(2, Checks.WIRE), 202752);
    }

    private static void sourceInRegion() {
        EvenClock x = Checks.at(1, 1, 3, 3);
        int[] within = {2, 2, 3, 1, 1, 3};
        for (int i = 0; i < within.length; i += 2) {
            x.source(within[i], within[i + 1]);
            x.build(0);
            Checks.due("no wire", x.node(2, Checks.WIRE), 0);
            Checks.due("the length is that of the two others", x.length(), 4096);
        }
        x.source(4, 0);
        x.build(0);
        Checks.due("just outside", x.node(2, Checks.WIRE), 2048);
    }

    private static void ofLengthAndDepth() {
        Checks.sentence("10: length: the sum of the lengths of all wires", TreeBoundsTest::lengths);
        Checks.sentence("11: depth: how many joins are above a sink", TreeBoundsTest::depths);
    }

    private static void lengths() {
        Checks.due("no wire at all", Checks.builtAt(0, 0, 0).length(), 0);
        Checks.due("no wire of ten", Checks.builtAt(1, new int[20]).length(), 0);
        Checks.due("the root's wire alone", Checks.builtAt(0, 200, 200).length(), 409600);
        Checks.due("a wire longer than it is far", Checks.builtAt(1, 0, 0, 0, 8, 1, 4).length(), 4 * 4096);
        int sum = 0;
        for (int k = 1; k < 10; k++) {
            sum += 512 * CHAIN[k] + 512 * (k < 9 ? CHAIN[k + 1] - CHAIN[k] : CHAIN[9]);
        }
        Checks.due("of ten", chain(0).length(), sum + 512);
    }

    private static void depths() {
        Checks.due("one sink", Checks.builtAt(0, 7, 7).depth(0), 0);
        Checks.due("one sink by way 1", Checks.builtAt(1, 7, 7).depth(0), 0);
        Checks.due("two sinks", Checks.builtAt(0, 7, 7, 8, 8).depth(1), 1);
        EvenClock deepest = chain(0);
        int[] due = {9, 9, 8, 7, 6, 5, 4, 3, 2, 1};
        for (int k = 0; k < 10; k++) {
            Checks.due("one by one: " + k, deepest.depth(k), due[k]);
        }
        EvenClock flattest = chain(1);
        int[] flat = {4, 4, 3, 3, 3, 4, 4, 3, 3, 3};
        for (int k = 0; k < 10; k++) {
            Checks.due("by halves: " + k, flattest.depth(k), flat[k]);
        }
    }
}
