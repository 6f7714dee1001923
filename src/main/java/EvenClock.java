import java.util.NoSuchElementException;

/**
 * A clock's tree over points of a plane: joined so that the wire is as long to every sink, then
 * looked at with resistances, capacities and buffers.
 */
public final class EvenClock {
    private static final int MOST_SINKS = 10;
    private static final int MOST_NODES = 2 * MOST_SINKS - 1;
    private static final int MOST_XY = 200;
    private static final int MOST_LOAD = 100;
    private static final int MOST_NEED = 1000000000;
    private static final int MOST_OF_WIRES = 20;
    private static final int MOST_INPUT = 1000000;
    private static final int MOST_DRIVE = 1000;
    private static final int MOST_BUFFER_DELAY = 1000000000;
    private static final int PARTS = 11;
    private static final int NONE = -1;
    private static final int FARTHEST = 2147483647;
    private static final int SCALE = 1024;
    private static final long NEED_SCALE = 1048576L;

    private final SinkRows given = new SinkRows();
    private final Tree tree = new Tree();
    private final Circuit circuit = new Circuit();
    private int sourceX = 0;
    private int sourceY = 0;
    private boolean built = false;
    private int buffered = 0;

    public EvenClock() {
    }

    public int sink(int x, int y, int load, int need)
            throws IllegalArgumentException, UnsupportedOperationException {
        if (!isPlace(x, y) || !isWithin(load, 1, MOST_LOAD) || !isWithin(need, 0, MOST_NEED)) {
            throw new IllegalArgumentException("no such sink can be");
        }
        if (given.count >= MOST_SINKS) {
            throw new UnsupportedOperationException("there are ten sinks");
        }
        built = false;
        return given.append(x, y, load, need);
    }

    public void cut(int n) throws IllegalArgumentException {
        if (!isWithin(n, 0, given.count)) {
            throw new IllegalArgumentException("there are not so many sinks");
        }
        built = false;
        given.count = n;
    }

    public void source(int x, int y) throws IllegalArgumentException {
        if (!isPlace(x, y)) {
            throw new IllegalArgumentException("no such place");
        }
        built = false;
        sourceX = x;
        sourceY = y;
    }

    public void wires(int r, int c) throws IllegalArgumentException {
        if (!isWithin(r, 1, MOST_OF_WIRES) || !isWithin(c, 1, MOST_OF_WIRES)) {
            throw new IllegalArgumentException("no such wires");
        }
        circuit.resistance = r;
        circuit.capacity = c;
    }

    public void buffer(int input, int drive, int delay) throws IllegalArgumentException {
        if (!isWithin(input, 1, MOST_INPUT) || !isWithin(drive, 1, MOST_DRIVE)
                || !isWithin(delay, 0, MOST_BUFFER_DELAY)) {
            throw new IllegalArgumentException("no such buffer");
        }
        circuit.input = input;
        circuit.drive = drive;
        circuit.ownDelay = delay;
    }

    public int sinks() {
        return given.count;
    }

    public int build(int way) throws IllegalArgumentException, NoSuchElementException {
        if (!isWithin(way, 0, 1)) {
            throw new IllegalArgumentException("no such way");
        }
        if (given.count == 0) {
            throw new NoSuchElementException("there is no sink");
        }
        tree.plantSinks(given);
        if (way == 0) {
            tree.joinByDistance();
        } else {
            tree.joinByCutting(given);
        }
        tree.choosePlaces(placeU(sourceX, sourceY), placeV(sourceX, sourceY));
        built = true;
        buffered = 0;
        return tree.nodes;
    }

    public int node(int k, int part) throws IllegalStateException, IndexOutOfBoundsException {
        requireTree();
        if (!isWithin(k, 0, tree.nodes - 1) || !isWithin(part, 0, PARTS - 1)) {
            throw new IndexOutOfBoundsException("no such node or part");
        }
        return tree.partOf(k, part);
    }

    public int length() throws IllegalStateException {
        requireTree();
        return tree.wireSum();
    }

    public int depth(int sink) throws IllegalStateException, IndexOutOfBoundsException {
        requireTree();
        requireSink(sink);
        return tree.joinsAbove(sink);
    }

    public boolean set(int join, boolean on) throws IllegalStateException, IndexOutOfBoundsException {
        requireTree();
        if (!isWithin(join, tree.leaves, tree.nodes - 1)) {
            throw new IndexOutOfBoundsException("no such join");
        }
        int before = buffered;
        int bit = tree.bitOf(join);
        buffered = on ? before | bit : before & ~bit;
        return buffered != before;
    }

    public int setting() throws IllegalStateException {
        requireTree();
        return buffered;
    }

    public long load(int node, boolean shown) throws IllegalStateException, IndexOutOfBoundsException {
        requireTree();
        if (!isWithin(node, 0, tree.nodes - 1)) {
            throw new IndexOutOfBoundsException("no such node");
        }
        circuit.weigh(tree, given, buffered);
        return shown ? circuit.shows[node] : circuit.bears[node];
    }

    public long delay(int sink) throws IllegalStateException, IndexOutOfBoundsException {
        requireTree();
        requireSink(sink);
        circuit.weigh(tree, given, buffered);
        return circuit.delayTo(tree, sink, buffered);
    }

    public long slack() throws IllegalStateException {
        requireTree();
        circuit.weigh(tree, given, buffered);
        return circuit.slackAtSource(tree);
    }

    public long best() throws IllegalStateException {
        requireTree();
        circuit.findBest(tree, given);
        return circuit.bestSlack;
    }

    public int improve() throws IllegalStateException {
        requireTree();
        circuit.findBest(tree, given);
        buffered = circuit.bestSetting;
        return buffered;
    }

    private void requireTree() {
        if (!built) {
            throw new IllegalStateException("there is no tree");
        }
    }

    private void requireSink(int sink) {
        if (!isWithin(sink, 0, tree.leaves - 1)) {
            throw new IndexOutOfBoundsException("no such sink");
        }
    }

    private static boolean isPlace(int x, int y) {
        return isWithin(x, 0, MOST_XY) && isWithin(y, 0, MOST_XY);
    }

    private static boolean isWithin(int value, int least, int most) {
        return value >= least && value <= most;
    }

    private static int placeU(int x, int y) {
        return SCALE * (x + y);
    }

    private static int placeV(int x, int y) {
        return SCALE * (x - y);
    }

    /** The sinks as they were given. */
    private static final class SinkRows {
        final int[] x = new int[MOST_SINKS];
        final int[] y = new int[MOST_SINKS];
        final int[] load = new int[MOST_SINKS];
        final int[] need = new int[MOST_SINKS];
        int count = 0;

        /** The caller has seen that there is room. */
        int append(int newX, int newY, int newLoad, int newNeed) {
            int number = count;
            x[number] = newX;
            y[number] = newY;
            load[number] = newLoad;
            need[number] = newNeed;
            count = number + 1;
            return number;
        }

        boolean isBefore(int a, int b, boolean byX) {
            int firstA = byX ? x[a] : y[a];
            int firstB = byX ? x[b] : y[b];
            if (firstA != firstB) {
                return firstA < firstB;
            }
            int secondA = byX ? y[a] : x[a];
            int secondB = byX ? y[b] : x[b];
            return secondA != secondB ? secondA < secondB : a < b;
        }
    }

    /**
     * Nodes, regions, wires and places. A join is made after its children, so that its number is
     * greater than theirs: a loop by number goes up the tree, one against it goes down.
     */
    private static final class Tree {
        final int[] left = new int[MOST_NODES];
        final int[] right = new int[MOST_NODES];
        final int[] parent = new int[MOST_NODES];
        final int[] lowU = new int[MOST_NODES];
        final int[] highU = new int[MOST_NODES];
        final int[] lowV = new int[MOST_NODES];
        final int[] highV = new int[MOST_NODES];
        final int[] time = new int[MOST_NODES];
        final int[] wire = new int[MOST_NODES];
        final int[] u = new int[MOST_NODES];
        final int[] v = new int[MOST_NODES];
        final int[] row = new int[MOST_SINKS];
        int leaves = 0;
        int nodes = 0;

        void plantSinks(SinkRows given) {
            leaves = given.count;
            nodes = leaves;
            for (int k = 0; k < leaves; k++) {
                int sinkU = placeU(given.x[k], given.y[k]);
                int sinkV = placeV(given.x[k], given.y[k]);
                left[k] = NONE;
                right[k] = NONE;
                parent[k] = NONE;
                lowU[k] = sinkU;
                highU[k] = sinkU;
                lowV[k] = sinkV;
                highV[k] = sinkV;
                time[k] = 0;
            }
        }

        void joinByDistance() {
            for (int made = 1; made < leaves; made++) {
                joinNearestPair();
            }
        }

        private void joinNearestPair() {
            int bestA = NONE;
            int bestB = NONE;
            int least = FARTHEST;
            for (int a = 0; a < nodes; a++) {
                for (int b = a + 1; b < nodes; b++) {
                    boolean areFree = parent[a] == NONE && parent[b] == NONE;
                    int distance = areFree ? distanceOf(a, b) : FARTHEST;
                    if (distance < least) {
                        least = distance;
                        bestA = a;
                        bestB = b;
                    }
                }
            }
            if (bestA != NONE) {
                joinTwo(bestA, bestB);
            }
        }

        void joinByCutting(SinkRows given) {
            for (int k = 0; k < leaves; k++) {
                row[k] = k;
            }
            joinRow(this, given, 0, leaves, 0);
        }

        /** Joins the sinks of a part of the row; ten sinks are cut four times at most. */
        private static int joinRow(Tree tree, SinkRows given, int from, int to, int cuts) {
            if (to - from < 2 || cuts >= MOST_SINKS) {
                return tree.row[from];
            }
            tree.orderRow(given, from, to, cuts % 2 == 0);
            int middle = from + (to - from + 1) / 2;
            int first = joinRow(tree, given, from, middle, cuts + 1);
            int rest = joinRow(tree, given, middle, to, cuts + 1);
            return tree.joinTwo(first, rest);
        }

        private void orderRow(SinkRows given, int from, int to, boolean byX) {
            for (int i = from + 1; i < to; i++) {
                int moved = row[i];
                int at = i;
                while (at > from && given.isBefore(moved, row[at - 1], byX)) {
                    row[at] = row[at - 1];
                    at--;
                }
                row[at] = moved;
            }
        }

        private int distanceOf(int a, int b) {
            int gapU = gapOf(lowU[a], highU[a], lowU[b], highU[b]);
            int gapV = gapOf(lowV[a], highV[a], lowV[b], highV[b]);
            return Math.max(gapU, gapV);
        }

        private static int gapOf(int lowA, int highA, int lowB, int highB) {
            return Math.max(0, Math.max(lowA - highB, lowB - highA));
        }

        private int joinTwo(int a, int b) {
            int join = nodes;
            setWires(a, b, distanceOf(a, b));
            left[join] = a;
            right[join] = b;
            parent[join] = NONE;
            parent[a] = join;
            parent[b] = join;
            lowU[join] = Math.max(lowU[a] - wire[a], lowU[b] - wire[b]);
            highU[join] = Math.min(highU[a] + wire[a], highU[b] + wire[b]);
            lowV[join] = Math.max(lowV[a] - wire[a], lowV[b] - wire[b]);
            highV[join] = Math.min(highV[a] + wire[a], highV[b] + wire[b]);
            time[join] = time[a] + wire[a];
            nodes = join + 1;
            return join;
        }

        private void setWires(int a, int b, int distance) {
            if (time[a] > distance + time[b]) {
                wire[a] = 0;
                wire[b] = time[a] - time[b];
            } else if (time[b] > distance + time[a]) {
                wire[a] = time[b] - time[a];
                wire[b] = 0;
            } else {
                wire[a] = (distance + time[b] - time[a]) / 2;
                wire[b] = distance - wire[a];
            }
        }

        void choosePlaces(int sourceU, int sourceV) {
            int root = nodes - 1;
            standNear(root, sourceU, sourceV);
            wire[root] = Math.max(Math.abs(u[root] - sourceU), Math.abs(v[root] - sourceV));
            for (int k = root - 1; k >= 0; k--) {
                standNear(k, u[parent[k]], v[parent[k]]);
            }
        }

        private void standNear(int k, int nearU, int nearV) {
            u[k] = Math.max(lowU[k], Math.min(highU[k], nearU));
            v[k] = Math.max(lowV[k], Math.min(highV[k], nearV));
        }

        int partOf(int k, int part) {
            switch (part) {
                case 0: return left[k];
                case 1: return right[k];
                case 2: return parent[k];
                case 3: return lowU[k];
                case 4: return highU[k];
                case 5: return lowV[k];
                case 6: return highV[k];
                case 7: return time[k];
                case 8: return wire[k];
                case 9: return u[k];
                default: return v[k];
            }
        }

        int wireSum() {
            int sum = 0;
            for (int k = 0; k < nodes; k++) {
                sum += wire[k];
            }
            return sum;
        }

        int joinsAbove(int sink) {
            int at = sink;
            int count = 0;
            for (int join = leaves; join < nodes; join++) {
                if (parent[at] == join) {
                    at = join;
                    count++;
                }
            }
            return count;
        }

        int bitOf(int join) {
            return 1 << (join - leaves);
        }
    }

    /** What wires and buffers are, and what the nodes bear and show with them. */
    private static final class Circuit {
        final long[] bears = new long[MOST_NODES];
        final long[] shows = new long[MOST_NODES];
        /** The least slack of the sinks below a node, without what is above the node. */
        final long[] slackBelow = new long[MOST_NODES];
        int resistance = 1;
        int capacity = 1;
        int input = 1;
        int drive = 1;
        int ownDelay = 0;
        long bestSlack = 0;
        int bestSetting = NONE;

        void weigh(Tree tree, SinkRows given, int setting) {
            weighSinks(tree, given);
            for (int join = tree.leaves; join < tree.nodes; join++) {
                weighJoin(tree, join, (setting & tree.bitOf(join)) != 0);
            }
        }

        private void weighSinks(Tree tree, SinkRows given) {
            for (int k = 0; k < tree.leaves; k++) {
                bears[k] = (long) SCALE * given.load[k];
                shows[k] = bears[k];
                slackBelow[k] = NEED_SCALE * given.need[k];
            }
        }

        private void weighJoin(Tree tree, int join, boolean hasBuffer) {
            int a = tree.left[join];
            int b = tree.right[join];
            bears[join] = shows[a] + wireCapacity(tree, a) + shows[b] + wireCapacity(tree, b);
            shows[join] = bears[join];
            slackBelow[join] = Math.min(slackAbove(tree, a), slackAbove(tree, b));
            if (hasBuffer) {
                shows[join] = (long) SCALE * input;
                slackBelow[join] -= bufferDelay(join);
            }
        }

        private long wireCapacity(Tree tree, int k) {
            return (long) capacity * tree.wire[k];
        }

        private long wireDelay(Tree tree, int k) {
            return (long) resistance * tree.wire[k] * (wireCapacity(tree, k) + 2 * shows[k]);
        }

        private long bufferDelay(int join) {
            return ownDelay + 2L * drive * bears[join];
        }

        private long slackAbove(Tree tree, int k) {
            return slackBelow[k] - wireDelay(tree, k);
        }

        long slackAtSource(Tree tree) {
            return slackAbove(tree, tree.nodes - 1);
        }

        long delayTo(Tree tree, int sink, int setting) {
            int at = sink;
            long sum = wireDelay(tree, sink);
            for (int join = tree.leaves; join < tree.nodes; join++) {
                if (tree.parent[at] == join) {
                    at = join;
                    sum += wireDelay(tree, join);
                    sum += (setting & tree.bitOf(join)) != 0 ? bufferDelay(join) : 0;
                }
            }
            return sum;
        }

        void findBest(Tree tree, SinkRows given) {
            bestSetting = NONE;
            weighSinks(tree, given);
            tryFrom(this, tree, tree.leaves, 0);
        }

        /**
         * Tries both for a join and all above it: what is below is weighed once for all of these.
         * There are nine joins at most, so it goes ten deep.
         */
        private static void tryFrom(Circuit circuit, Tree tree, int join, int setting) {
            if (join >= tree.nodes) {
                circuit.keepIfBetter(circuit.slackAtSource(tree), setting);
                return;
            }
            circuit.weighJoin(tree, join, false);
            tryFrom(circuit, tree, join + 1, setting);
            circuit.weighJoin(tree, join, true);
            tryFrom(circuit, tree, join + 1, setting | tree.bitOf(join));
        }

        private void keepIfBetter(long slack, int setting) {
            boolean isBetter = bestSetting == NONE || slack > bestSlack
                    || slack == bestSlack && setting < bestSetting;
            if (isBetter) {
                bestSlack = slack;
                bestSetting = setting;
            }
        }
    }
}
