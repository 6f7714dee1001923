/**
 * For each sentence that bounds an argument: the last value that is taken on each side, and that it is taken
 * as it is; the first value that is refused on each side, and the farthest one.
 */
public final class ArgumentBoundsTest {
    private static final int WRAPPED = 1 << 22;

    public static void main(String[] args) {
        ofSinks();
        ofCut();
        ofSource();
        ofWires();
        ofBuffer();
        ofBuild();
        ofNode();
        ofDepth();
        ofSet();
        ofLoad();
        ofDelay();
        Checks.finish();
    }

    private interface Taker {
        void take(int value);
    }

    private static void refusesAll(Class<? extends RuntimeException> want, Taker call, int... values) {
        for (int value : values) {
            Checks.refused("with " + value, want, () -> call.take(value));
        }
    }

    private static void ofSinks() {
        Checks.sentence("2: sink: x is 0 .. 200", ArgumentBoundsTest::sinkX);
        Checks.sentence("2: sink: y is 0 .. 200", ArgumentBoundsTest::sinkY);
        Checks.sentence("2: sink: a load is 1 .. 100", ArgumentBoundsTest::sinkLoad);
        Checks.sentence("2: sink: a need is 0 .. 1000000000", ArgumentBoundsTest::sinkNeed);
        Checks.sentence("2: sink: refused if any one of the four is not as said", ArgumentBoundsTest::sinkAnyOne);
        Checks.sentence("Terms: sinks are numbered 0, 1, .. , at most 10", ArgumentBoundsTest::sinkNumbers);
        Checks.sentence("2: sink: UnsupportedOperationException when there are ten", ArgumentBoundsTest::sinkTen);
    }

    private static void sinkIsAt(int x, int y, int u, int v) {
        EvenClock clock = Checks.builtAt(0, x, y);
        Checks.due("u of " + x + ", " + y, clock.node(0, Checks.U), u);
        Checks.due("v of " + x + ", " + y, clock.node(0, Checks.V), v);
    }

    private static void sinkX() {
        sinkIsAt(0, 7, 7168, -7168);
        sinkIsAt(1, 7, 8192, -6144);
        sinkIsAt(199, 7, 210944, 196608);
        sinkIsAt(200, 7, 211968, 197632);
        refusesAll(Checks.ARGUMENT, x -> new EvenClock().sink(x, 7, 1, 0), -1, 201, WRAPPED, Checks.LEAST,
                Checks.GREATEST);
    }

    private static void sinkY() {
        sinkIsAt(7, 0, 7168, 7168);
        sinkIsAt(7, 1, 8192, 6144);
        sinkIsAt(7, 199, 210944, -196608);
        sinkIsAt(7, 200, 211968, -197632);
        refusesAll(Checks.ARGUMENT, y -> new EvenClock().sink(7, y, 1, 0), -1, 201, WRAPPED, Checks.LEAST,
                Checks.GREATEST);
    }

    private static void sinkBears(int load, long due) {
        EvenClock x = new EvenClock();
        x.sink(7, 7, load, 0);
        x.build(0);
        Checks.due("load " + load, x.load(0, false), due);
    }

    private static void sinkLoad() {
        sinkBears(1, 1024);
        sinkBears(2, 2048);
        sinkBears(99, 101376);
        sinkBears(100, 102400);
        refusesAll(Checks.ARGUMENT, load -> new EvenClock().sink(7, 7, load, 0), 0, -1, 101, Checks.LEAST,
                Checks.GREATEST);
    }

    /** At the source's place there is no delay: the slack is the need's alone. */
    private static void sinkHasSlack(int need, long due) {
        EvenClock x = new EvenClock();
        x.sink(0, 0, 1, need);
        x.build(0);
        Checks.due("need " + need, x.slack(), due);
    }

    private static void sinkNeed() {
        sinkHasSlack(0, 0);
        sinkHasSlack(1, 1048576);
        sinkHasSlack(999999999, 1048575998951424L);
        sinkHasSlack(1000000000, 1048576000000000L);
        refusesAll(Checks.ARGUMENT, need -> new EvenClock().sink(7, 7, 1, need), -1, 1000000001, Checks.LEAST,
                Checks.GREATEST);
    }

    private static void sinkAnyOne() {
        EvenClock x = new EvenClock();
        Checks.due("all four least", x.sink(0, 0, 1, 0), 0);
        Checks.due("all four greatest", x.sink(200, 200, 100, 1000000000), 1);
        Checks.refused("x alone", Checks.ARGUMENT, () -> x.sink(201, 200, 100, 1000000000));
        Checks.refused("y alone", Checks.ARGUMENT, () -> x.sink(200, 201, 100, 1000000000));
        Checks.refused("load alone", Checks.ARGUMENT, () -> x.sink(200, 200, 101, 1000000000));
        Checks.refused("need alone", Checks.ARGUMENT, () -> x.sink(200, 200, 100, 1000000001));
        Checks.refused("x alone, under", Checks.ARGUMENT, () -> x.sink(-1, 0, 1, 0));
        Checks.refused("y alone, under", Checks.ARGUMENT, () -> x.sink(0, -1, 1, 0));
        Checks.refused("load alone, under", Checks.ARGUMENT, () -> x.sink(0, 0, 0, 0));
        Checks.refused("need alone, under", Checks.ARGUMENT, () -> x.sink(0, 0, 1, -1));
        Checks.refused("all four", Checks.ARGUMENT, () -> x.sink(-1, 201, 0, -1));
        Checks.due("sinks", x.sinks(), 2);
    }

    private static void sinkNumbers() {
        EvenClock x = new EvenClock();
        for (int k = 0; k < 10; k++) {
            Checks.due("so many before", x.sinks(), k);
            Checks.due("the number of the next", x.sink(k, 0, 1, 0), k);
        }
        Checks.due("ten", x.sinks(), 10);
        x.build(0);
        for (int k = 0; k < 10; k++) {
            Checks.due("the number stays with its place", x.node(k, Checks.U), 1024 * k);
        }
    }

    private static void sinkTen() {
        EvenClock x = Checks.together(9);
        Checks.due("the tenth", x.sink(200, 200, 1, 0), 9);
        Checks.refused("the eleventh", Checks.FULL, () -> x.sink(0, 0, 1, 0));
        Checks.refused("an eleventh at the greatest", Checks.FULL, () -> x.sink(200, 200, 100, 1000000000));
        Checks.due("ten stay", x.sinks(), 10);
        x.cut(9);
        Checks.due("a tenth after a cut", x.sink(5, 5, 1, 0), 9);
        Checks.refused("an eleventh after a cut", Checks.FULL, () -> x.sink(0, 0, 1, 0));
    }

    private static void ofCut() {
        Checks.sentence("3: cut: IllegalArgumentException when n is negative", ArgumentBoundsTest::cutNegative);
        Checks.sentence("3: cut: or there are not so many", ArgumentBoundsTest::cutTooMany);
        Checks.sentence("3: cut: only the first n sinks stay", ArgumentBoundsTest::cutFirstStay);
        Checks.sentence("3: cut: none stays of n = 0", ArgumentBoundsTest::cutToNone);
    }

    private static void cutNegative() {
        for (int n = 0; n <= 10; n++) {
            EvenClock x = Checks.together(n);
            refusesAll(Checks.ARGUMENT, x::cut, -1, -n - 1, Checks.LEAST);
            Checks.due("sinks", x.sinks(), n);
        }
    }

    private static void cutTooMany() {
        for (int n = 0; n <= 10; n++) {
            EvenClock x = Checks.together(n);
            refusesAll(Checks.ARGUMENT, x::cut, n + 1, n + 2, 11, Checks.GREATEST);
            x.cut(n);
            Checks.due("all of " + n, x.sinks(), n);
        }
        EvenClock once = Checks.together(10);
        once.cut(4);
        refusesAll(Checks.ARGUMENT, once::cut, 5, 10);
    }

    private static void cutFirstStay() {
        for (int n = 1; n <= 10; n++) {
            EvenClock x = new EvenClock();
            for (int k = 0; k < 10; k++) {
                x.sink(k, 0, 1 + k, k);
            }
            x.cut(n);
            Checks.due("sinks", x.sinks(), n);
            Checks.due("nodes", x.build(0), 2 * n - 1);
            for (int k = 0; k < n; k++) {
                Checks.due("place of " + k, x.node(k, Checks.U), 1024 * k);
                Checks.due("load of " + k, x.load(k, false), 1024 * (1 + k));
            }
        }
    }

    private static void cutToNone() {
        EvenClock x = Checks.together(10);
        x.cut(0);
        Checks.due("sinks", x.sinks(), 0);
        Checks.refused("no tree can be", Checks.EMPTY, () -> x.build(0));
        x.cut(0);
        Checks.due("still none", x.sinks(), 0);
        Checks.due("numbers begin again", x.sink(3, 0, 2, 9), 0);
        x.build(0);
        Checks.due("the new place", x.node(0, Checks.U), 3072);
        Checks.due("the new load", x.load(0, false), 2048);
    }

    private static void ofSource() {
        Checks.sentence("4: source: x is 0 .. 200", ArgumentBoundsTest::sourceX);
        Checks.sentence("4: source: y is 0 .. 200", ArgumentBoundsTest::sourceY);
        Checks.sentence("Terms: the source is at first both 0", ArgumentBoundsTest::sourceAtFirst);
    }

    private static void sourceIs(int x, int y, int fromOrigin) {
        EvenClock clock = Checks.at(0, 0);
        clock.source(x, y);
        clock.build(0);
        Checks.due("wire to 0, 0 from " + x + ", " + y, clock.node(0, Checks.WIRE), fromOrigin);
    }

    private static void sourceX() {
        sourceIs(0, 5, 5120);
        sourceIs(1, 5, 6144);
        sourceIs(199, 5, 208896);
        sourceIs(200, 5, 209920);
        refusesAll(Checks.ARGUMENT, x -> new EvenClock().source(x, 5), -1, 201, WRAPPED, Checks.LEAST,
                Checks.GREATEST);
    }

    private static void sourceY() {
        sourceIs(5, 0, 5120);
        sourceIs(5, 1, 6144);
        sourceIs(5, 199, 208896);
        sourceIs(5, 200, 209920);
        sourceIs(0, 0, 0);
        sourceIs(200, 200, 409600);
        refusesAll(Checks.ARGUMENT, y -> new EvenClock().source(5, y), -1, 201, WRAPPED, Checks.LEAST,
                Checks.GREATEST);
    }

    private static void sourceAtFirst() {
        Checks.due("at 0, 0", Checks.builtAt(0, 0, 0).node(0, Checks.WIRE), 0);
        Checks.due("at 200, 0", Checks.builtAt(0, 200, 0).node(0, Checks.WIRE), 204800);
        Checks.due("at 0, 200", Checks.builtAt(0, 0, 200).node(0, Checks.WIRE), 204800);
    }

    private static void ofWires() {
        Checks.sentence("5: wires: r is 1 .. 20", ArgumentBoundsTest::wiresR);
        Checks.sentence("5: wires: c is 1 .. 20", ArgumentBoundsTest::wiresC);
        Checks.sentence("Terms: resistance and capacity are at first 1", ArgumentBoundsTest::wiresAtFirst);
    }

    /** One wire of 1024 with 1024 below it: its delay is r * 1024 * (c * 1024 + 2048). */
    private static long delayOfUnit(EvenClock x) {
        x.sink(1, 0, 1, 0);
        x.build(0);
        return x.delay(0);
    }

    private static void wiresAre(int r, int c, long due) {
        EvenClock x = new EvenClock();
        x.wires(r, c);
        Checks.due("wires " + r + ", " + c, delayOfUnit(x), due);
    }

    private static void wiresR() {
        wiresAre(1, 1, 3145728);
        wiresAre(2, 1, 6291456);
        wiresAre(19, 1, 59768832);
        wiresAre(20, 1, 62914560);
        refusesAll(Checks.ARGUMENT, r -> new EvenClock().wires(r, 1), 0, -1, 21, Checks.LEAST, Checks.GREATEST);
        refusesAll(Checks.ARGUMENT, r -> new EvenClock().wires(r, 20), 0, 21);
    }

    private static void wiresC() {
        wiresAre(1, 2, 4194304);
        wiresAre(1, 19, 22020096);
        wiresAre(1, 20, 23068672);
        wiresAre(20, 20, 461373440);
        refusesAll(Checks.ARGUMENT, c -> new EvenClock().wires(1, c), 0, -1, 21, Checks.LEAST, Checks.GREATEST);
        refusesAll(Checks.ARGUMENT, c -> new EvenClock().wires(20, c), 0, 21);
    }

    private static void wiresAtFirst() {
        Checks.due("delay", delayOfUnit(new EvenClock()), 3145728);
    }

    private static void ofBuffer() {
        Checks.sentence("6: buffer: an input is 1 .. 1000000", ArgumentBoundsTest::bufferInput);
        Checks.sentence("6: buffer: a drive is 1 .. 1000", ArgumentBoundsTest::bufferDrive);
        Checks.sentence("6: buffer: a delay is 0 .. 1000000000", ArgumentBoundsTest::bufferDelay);
        Checks.sentence("Terms: a buffer has at first 1, 1 and 0", ArgumentBoundsTest::bufferAtFirst);
    }

    /** Two sinks where the source is, the buffer set: the join bears 2048, and there are no wires. */
    private static EvenClock buffered() {
        EvenClock x = Checks.together(2);
        x.build(0);
        x.set(2, true);
        return x;
    }

    private static void bufferIs(int input, int drive, int delay, long shown, long delayed) {
        EvenClock x = buffered();
        x.buffer(input, drive, delay);
        String what = "buffer " + input + ", " + drive + ", " + delay;
        Checks.due(what + ": shown", x.load(2, true), shown);
        Checks.due(what + ": delay", x.delay(0), delayed);
    }

    private static void bufferInput() {
        bufferIs(1, 1, 0, 1024, 4096);
        bufferIs(2, 1, 0, 2048, 4096);
        bufferIs(999999, 1, 0, 1023998976, 4096);
        bufferIs(1000000, 1, 0, 1024000000, 4096);
        refusesAll(Checks.ARGUMENT, input -> new EvenClock().buffer(input, 1, 0), 0, -1, 1000001, Checks.LEAST,
                Checks.GREATEST);
    }

    private static void bufferDrive() {
        bufferIs(1, 2, 0, 1024, 8192);
        bufferIs(1, 999, 0, 1024, 4091904);
        bufferIs(1, 1000, 0, 1024, 4096000);
        refusesAll(Checks.ARGUMENT, drive -> new EvenClock().buffer(1, drive, 0), 0, -1, 1001, Checks.LEAST,
                Checks.GREATEST);
    }

    private static void bufferDelay() {
        bufferIs(1, 1, 1, 1024, 4097);
        bufferIs(1, 1, 999999999, 1024, 1000004095);
        bufferIs(1, 1, 1000000000, 1024, 1000004096);
        bufferIs(1000000, 1000, 1000000000, 1024000000, 1004096000);
        refusesAll(Checks.ARGUMENT, delay -> new EvenClock().buffer(1, 1, delay), -1, 1000000001, Checks.LEAST,
                Checks.GREATEST);
        refusesAll(Checks.ARGUMENT, delay -> new EvenClock().buffer(1000000, 1000, delay), -1, 1000000001);
    }

    private static void bufferAtFirst() {
        EvenClock x = buffered();
        Checks.due("input", x.load(2, true), 1024);
        Checks.due("drive and delay", x.delay(1), 4096);
    }

    private static void ofBuild() {
        Checks.sentence("8: build: IllegalArgumentException when way is not 0 or 1", ArgumentBoundsTest::buildWay);
        Checks.sentence("8: build: NoSuchElementException when there is no sink", ArgumentBoundsTest::buildNone);
        Checks.sentence("8: build: how many nodes it has", ArgumentBoundsTest::buildNodes);
    }

    private static void buildWay() {
        EvenClock x = Checks.at(0, 0, 9, 0, 10, 0);
        refusesAll(Checks.ARGUMENT, x::build, -1, 2, Checks.LEAST, Checks.GREATEST);
        Checks.noTree("after refused ways", x);
        x.build(0);
        Checks.joins("way 0: the nearest two", x, 1, 2, 0, 3);
        x.build(1);
        Checks.joins("way 1: the first half", x, 0, 1, 3, 2);
    }

    private static void buildNone() {
        EvenClock x = new EvenClock();
        refusesAll(Checks.EMPTY, x::build, 0, 1);
        x.sink(0, 0, 1, 0);
        Checks.due("one is enough", x.build(0), 1);
        Checks.due("one is enough for way 1", x.build(1), 1);
        x.cut(0);
        refusesAll(Checks.EMPTY, x::build, 0, 1);
    }

    private static void buildNodes() {
        for (int n = 1; n <= 10; n++) {
            EvenClock x = Checks.together(n);
            Checks.due("way 0 of " + n, x.build(0), 2 * n - 1);
            Checks.due("way 1 of " + n, x.build(1), 2 * n - 1);
        }
    }

    /** A tree of n sinks, built where a tree of ten stood before: what is beyond n must be gone. */
    private static EvenClock afterTen(int n, int way) {
        EvenClock x = Checks.together(10);
        x.build(way);
        x.cut(n);
        x.build(way);
        return x;
    }

    private static void ofNode() {
        Checks.sentence("9: node: IndexOutOfBoundsException when there is no such node",
                ArgumentBoundsTest::nodeNumber);
        Checks.sentence("9: node: or part", ArgumentBoundsTest::nodePart);
    }

    private static void nodeNumber() {
        for (int n = 1; n <= 10; n++) {
            EvenClock x = afterTen(n, n % 2);
            Checks.due("first of " + n, x.node(0, Checks.LEFT), -1);
            Checks.due("last of " + n, x.node(2 * n - 2, Checks.PARENT), -1);
            refusesAll(Checks.INDEX, k -> x.node(k, 0), -1, 2 * n - 1, 2 * n, 19, Checks.LEAST, Checks.GREATEST);
        }
    }

    private static void nodePart() {
        EvenClock x = Checks.builtAt(0, 3, 1, 4, 1);
        Checks.due("part 0 of a sink", x.node(1, 0), -1);
        Checks.due("part 10 of a sink", x.node(1, 10), 3072);
        Checks.due("part 0 of the root", x.node(2, 0), 0);
        Checks.due("part 10 of the root", x.node(2, 10), 2560);
        for (int k = 0; k < 3; k++) {
            int node = k;
            refusesAll(Checks.INDEX, part -> x.node(node, part), -1, 11, 12, Checks.LEAST, Checks.GREATEST);
        }
        Checks.refused("neither node nor part", Checks.INDEX, () -> x.node(3, 11));
    }

    private static void ofDepth() {
        Checks.sentence("11: depth: IndexOutOfBoundsException when there is no such sink",
                ArgumentBoundsTest::depthSink);
    }

    private static void depthSink() {
        for (int n = 1; n <= 10; n++) {
            EvenClock x = afterTen(n, n % 2);
            Checks.due("the first has joins above it", x.depth(0) > 0, n > 1);
            Checks.due("the last has joins above it", x.depth(n - 1) > 0, n > 1);
            refusesAll(Checks.INDEX, x::depth, -1, n, 2 * n - 2 + (n == 1 ? 1 : 0), 2 * n - 1, 10, Checks.LEAST,
                    Checks.GREATEST);
        }
    }

    private static void ofSet() {
        Checks.sentence("12: set: IndexOutOfBoundsException when there is no such join", ArgumentBoundsTest::setJoin);
        Checks.sentence("12: set: one sink has no join", ArgumentBoundsTest::setOfOne);
    }

    /** The number 32 on wraps around in a shift. */
    private static void setJoin() {
        for (int n = 2; n <= 10; n++) {
            EvenClock x = afterTen(n, n % 2);
            int first = n;
            int last = 2 * n - 2;
            refusesAll(Checks.INDEX, k -> x.set(k, true), -1, 0, first - 1, last + 1, 19, first + 32, last + 32,
                    first - 32, Checks.LEAST, Checks.GREATEST);
            Checks.due("none was set", x.setting(), 0);
            Checks.due("the first join", x.set(first, true), true);
            Checks.due("the last join", x.set(last, true), last != first);
            refusesAll(Checks.INDEX, k -> x.set(k, false), -1, 0, first - 1, last + 1, 19, first + 32, last + 32,
                    first - 32, Checks.LEAST, Checks.GREATEST);
            Checks.due("none was taken away", x.setting(), 1 | 1 << (n - 2));
        }
    }

    private static void setOfOne() {
        for (int way = 0; way < 2; way++) {
            EvenClock x = afterTen(1, way);
            refusesAll(Checks.INDEX, k -> x.set(k, true), -1, 0, 1, 2, 10, 32, 33, Checks.LEAST, Checks.GREATEST);
            refusesAll(Checks.INDEX, k -> x.set(k, false), -1, 0, 1, 2, 10, 32, 33, Checks.LEAST, Checks.GREATEST);
            Checks.due("setting", x.setting(), 0);
        }
    }

    private static void ofLoad() {
        Checks.sentence("14: load: IndexOutOfBoundsException when there is no such node", ArgumentBoundsTest::loadNode);
    }

    private static void loadNode() {
        for (int n = 1; n <= 10; n++) {
            EvenClock x = afterTen(n, n % 2);
            Checks.due("the first", x.load(0, false), 1024);
            Checks.due("the last bears all", x.load(2 * n - 2, false), 1024 * n);
            Checks.due("the last shows all", x.load(2 * n - 2, true), 1024 * n);
            refusesAll(Checks.INDEX, k -> x.load(k, false), -1, 2 * n - 1, 19, Checks.LEAST, Checks.GREATEST);
            refusesAll(Checks.INDEX, k -> x.load(k, true), -1, 2 * n - 1, 19, Checks.LEAST, Checks.GREATEST);
        }
    }

    private static void ofDelay() {
        Checks.sentence("15: delay: IndexOutOfBoundsException when there is no such sink",
                ArgumentBoundsTest::delaySink);
    }

    private static void delaySink() {
        for (int n = 1; n <= 10; n++) {
            EvenClock x = afterTen(n, n % 2);
            Checks.due("the first", x.delay(0), 0);
            Checks.due("the last", x.delay(n - 1), 0);
            refusesAll(Checks.INDEX, x::delay, -1, n, 2 * n - 2 + (n == 1 ? 1 : 0), 2 * n - 1, 10, Checks.LEAST,
                    Checks.GREATEST);
        }
    }
}
