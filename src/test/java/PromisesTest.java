/** For each promise of the document: answers worked out by hand, the edges it names, wrong inputs. */
public final class PromisesTest {
    public static void main(String[] args) {
        Checks.sentence("newObject", PromisesTest::newObject);
        Checks.sentence("sink", PromisesTest::sink);
        Checks.sentence("cut", PromisesTest::cut);
        Checks.sentence("source", PromisesTest::source);
        Checks.sentence("wires", PromisesTest::wires);
        Checks.sentence("buffer", PromisesTest::buffer);
        Checks.sentence("sinks", PromisesTest::sinks);
        Checks.sentence("buildAnswers", PromisesTest::buildAnswers);
        Checks.sentence("buildByDistance", PromisesTest::buildByDistance);
        Checks.sentence("buildByCutting", PromisesTest::buildByCutting);
        Checks.sentence("nodeOfOneSink", PromisesTest::nodeOfOneSink);
        Checks.sentence("nodeOfTwoSinks", PromisesTest::nodeOfTwoSinks);
        Checks.sentence("nodeWithWireTooLong", PromisesTest::nodeWithWireTooLong);
        Checks.sentence("nodePlaces", PromisesTest::nodePlaces);
        Checks.sentence("nodeWrong", PromisesTest::nodeWrong);
        Checks.sentence("length", PromisesTest::length);
        Checks.sentence("depth", PromisesTest::depth);
        Checks.sentence("set", PromisesTest::set);
        Checks.sentence("setting", PromisesTest::setting);
        Checks.sentence("load", PromisesTest::load);
        Checks.sentence("delay", PromisesTest::delay);
        Checks.sentence("slack", PromisesTest::slack);
        Checks.sentence("best", PromisesTest::best);
        Checks.sentence("improve", PromisesTest::improve);
        Checks.sentence("greatNumbers", PromisesTest::greatNumbers);
        Checks.finish();
    }

    /** Wires of 2048 above both sinks; the root's region has u 2048 and v from -2048 to 2048. */
    private static EvenClock pair() {
        EvenClock x = new EvenClock();
        x.sink(0, 0, 1, 10);
        x.sink(2, 2, 3, 20);
        return x;
    }

    private static EvenClock builtPair() {
        EvenClock x = pair();
        x.build(0);
        return x;
    }

    private static void newObject() {
        EvenClock x = new EvenClock();
        Checks.due("1: sinks", x.sinks(), 0);
        Checks.noTree("1: new", x);
        EvenClock other = pair();
        other.build(0);
        Checks.due("1: another object's sinks", x.sinks(), 0);
        Checks.noTree("1: beside another object", x);
    }

    private static void sink() {
        EvenClock x = new EvenClock();
        Checks.due("2: least", x.sink(0, 0, 1, 0), 0);
        Checks.due("2: greatest", x.sink(200, 200, 100, 1000000000), 1);
        Checks.refused("2: x under", Checks.ARGUMENT, () -> x.sink(-1, 0, 1, 0));
        Checks.refused("2: x over", Checks.ARGUMENT, () -> x.sink(201, 0, 1, 0));
        Checks.refused("2: y under", Checks.ARGUMENT, () -> x.sink(0, -1, 1, 0));
        Checks.refused("2: y over", Checks.ARGUMENT, () -> x.sink(0, 201, 1, 0));
        Checks.refused("2: load under", Checks.ARGUMENT, () -> x.sink(0, 0, 0, 0));
        Checks.refused("2: load over", Checks.ARGUMENT, () -> x.sink(0, 0, 101, 0));
        Checks.refused("2: need under", Checks.ARGUMENT, () -> x.sink(0, 0, 1, -1));
        Checks.refused("2: need over", Checks.ARGUMENT, () -> x.sink(0, 0, 1, 1000000001));
        Checks.due("2: none came of wrong ones", x.sinks(), 2);
        x.build(0);
        Checks.refused("2: wrong with a tree", Checks.ARGUMENT, () -> x.sink(0, 0, 0, 0));
        Checks.due("2: a wrong one leaves the tree", x.node(2, Checks.LEFT), 0);
        for (int k = 2; k < 10; k++) {
            Checks.due("2: next", x.sink(k, k, 1, 0), k);
            Checks.noTree("2: a sink ends the tree", x);
        }
        Checks.due("2: ten's tree", x.build(1), 19);
        Checks.refused("2: eleventh", Checks.FULL, () -> x.sink(0, 0, 1, 0));
        Checks.refused("2: eleventh and wrong", Checks.ARGUMENT, () -> x.sink(0, 0, 0, 0));
        Checks.due("2: ten stay", x.sinks(), 10);
        Checks.due("2: an eleventh leaves the tree", x.node(18, Checks.PARENT), -1);
    }

    private static void cut() {
        EvenClock x = Checks.at(0, 0, 2, 2, 9, 9);
        Checks.refused("3: negative", Checks.ARGUMENT, () -> x.cut(-1));
        Checks.refused("3: too many", Checks.ARGUMENT, () -> x.cut(4));
        x.build(0);
        Checks.refused("3: too many with a tree", Checks.ARGUMENT, () -> x.cut(4));
        Checks.due("3: a wrong one leaves the tree", x.node(4, Checks.PARENT), -1);
        x.cut(3);
        Checks.due("3: all stay", x.sinks(), 3);
        Checks.noTree("3: cut ends the tree", x);
        x.cut(1);
        Checks.due("3: one stays", x.sinks(), 1);
        Checks.due("3: the first one stays", x.build(0), 1);
        Checks.due("3: its u", x.node(0, 3), 0);
        Checks.due("3: the next number", x.sink(7, 1, 2, 3), 1);
        x.build(0);
        Checks.due("3: the new one's u", x.node(1, 3), 8192);
        Checks.due("3: the new one's load", x.load(1, false), 2048);
        x.cut(0);
        Checks.due("3: none stays", x.sinks(), 0);
        Checks.refused("3: one of none", Checks.ARGUMENT, () -> x.cut(1));
        x.cut(0);
    }

    private static void source() {
        EvenClock x = pair();
        Checks.refused("4: x under", Checks.ARGUMENT, () -> x.source(-1, 0));
        Checks.refused("4: x over", Checks.ARGUMENT, () -> x.source(201, 0));
        Checks.refused("4: y under", Checks.ARGUMENT, () -> x.source(0, -1));
        Checks.refused("4: y over", Checks.ARGUMENT, () -> x.source(0, 201));
        x.build(0);
        Checks.due("4: at first u is that of 0, 0", x.node(2, Checks.WIRE), 2048);
        Checks.due("4: at first v is that of 0, 0", x.node(2, 10), 0);
        Checks.refused("4: wrong with a tree", Checks.ARGUMENT, () -> x.source(0, 201));
        Checks.due("4: a wrong one leaves the tree", x.node(2, Checks.WIRE), 2048);
        x.source(0, 0);
        Checks.noTree("4: the same source ends the tree, too", x);
        x.source(2, 0);
        x.build(0);
        Checks.due("4: from 2, 0", x.node(2, Checks.WIRE), 0);
        Checks.due("4: v of the root", x.node(2, 10), 2048);
        x.source(200, 0);
        x.build(0);
        Checks.due("4: from 200, 0", x.node(2, Checks.WIRE), 202752);
        x.source(0, 200);
        x.build(0);
        Checks.due("4: from 0, 200", x.node(2, Checks.WIRE), 202752);
        Checks.due("4: v of the root then", x.node(2, 10), -2048);
    }

    private static void wires() {
        EvenClock x = builtPair();
        Checks.due("5: at first", x.load(2, false), 8192);
        x.set(2, true);
        x.wires(2, 3);
        Checks.due("5: the tree and its setting stay", x.setting(), 1);
        Checks.due("5: capacity", x.load(2, false), 16384);
        Checks.refused("5: r under", Checks.ARGUMENT, () -> x.wires(0, 1));
        Checks.refused("5: r over", Checks.ARGUMENT, () -> x.wires(21, 1));
        Checks.refused("5: c under", Checks.ARGUMENT, () -> x.wires(1, 0));
        Checks.refused("5: c over", Checks.ARGUMENT, () -> x.wires(1, 21));
        Checks.due("5: wrong ones change nothing", x.load(2, false), 16384);
        x.set(2, false);
        Checks.due("5: resistance", x.delay(0), 4096L * (6144 + 2048) + 4096L * (6144 + 32768));
        x.wires(20, 20);
        Checks.due("5: greatest", x.load(2, false), 1024 + 3072 + 2 * 40960);
        x.wires(1, 1);
        Checks.due("5: least", x.load(2, false), 8192);
        x.wires(1, 2);
        x.sink(5, 5, 1, 1);
        x.build(1);
        x.cut(2);
        x.build(1);
        Checks.due("5: they stay for later trees", x.load(2, false), 12288);
    }

    private static void buffer() {
        EvenClock x = builtPair();
        x.set(2, true);
        Checks.due("6: input at first", x.load(2, true), 1024);
        Checks.due("6: drive and delay at first", x.delay(0), 8388608 + 8388608 + 16384);
        x.buffer(5, 3, 7);
        Checks.due("6: the tree and its setting stay", x.setting(), 1);
        Checks.due("6: input", x.load(2, true), 5120);
        Checks.due("6: drive and delay", x.delay(0), 25165824 + 8388608 + 49159);
        Checks.refused("6: input under", Checks.ARGUMENT, () -> x.buffer(0, 1, 0));
        Checks.refused("6: input over", Checks.ARGUMENT, () -> x.buffer(1000001, 1, 0));
        Checks.refused("6: drive under", Checks.ARGUMENT, () -> x.buffer(1, 0, 0));
        Checks.refused("6: drive over", Checks.ARGUMENT, () -> x.buffer(1, 1001, 0));
        Checks.refused("6: delay under", Checks.ARGUMENT, () -> x.buffer(1, 1, -1));
        Checks.refused("6: delay over", Checks.ARGUMENT, () -> x.buffer(1, 1, 1000000001));
        Checks.due("6: wrong ones change nothing", x.delay(0), 25165824 + 8388608 + 49159);
        x.buffer(1000000, 1000, 1000000000);
        Checks.due("6: greatest", x.delay(0),
                2048L * (2048 + 2048000000L) + 8388608 + 1000000000 + 2000L * 8192);
        x.buffer(1, 1, 0);
        Checks.due("6: least", x.delay(0), 8388608 + 8388608 + 16384);
        x.buffer(9, 1, 0);
        x.source(1, 1);
        x.build(0);
        x.set(2, true);
        Checks.due("6: it stays for later trees", x.load(2, true), 9216);
    }

    private static void sinks() {
        EvenClock x = new EvenClock();
        for (int k = 0; k < 10; k++) {
            Checks.due("7: before", x.sinks(), k);
            x.sink(1, 1, 1, 1);
        }
        Checks.due("7: ten", x.sinks(), 10);
        x.build(0);
        Checks.due("7: with a tree", x.sinks(), 10);
        Checks.due("7: it leaves the tree", x.setting(), 0);
        x.cut(4);
        Checks.due("7: after a cut", x.sinks(), 4);
    }

    private static void buildAnswers() {
        EvenClock x = new EvenClock();
        Checks.refused("8: no sink", Checks.EMPTY, () -> x.build(0));
        Checks.refused("8: no sink, other way", Checks.EMPTY, () -> x.build(1));
        Checks.refused("8: no sink and no such way", Checks.ARGUMENT, () -> x.build(2));
        for (int n = 1; n <= 10; n++) {
            x.sink(n * n, 7 * n % 10, 1, 1);
            Checks.due("8: nodes by way 0", x.build(0), 2 * n - 1);
            Checks.due("8: nodes by way 1", x.build(1), 2 * n - 1);
        }
        x.set(10, true);
        Checks.refused("8: way under", Checks.ARGUMENT, () -> x.build(-1));
        Checks.refused("8: way over", Checks.ARGUMENT, () -> x.build(2));
        Checks.due("8: wrong ones leave the tree", x.setting(), 1);
        x.build(1);
        Checks.due("8: no buffers in the new tree", x.setting(), 0);
        x.cut(0);
        Checks.refused("8: none left", Checks.EMPTY, () -> x.build(1));
    }

    private static void buildByDistance() {
        EvenClock x = Checks.at(0, 0, 9, 9, 1, 0, 9, 8);
        x.build(0);
        Checks.due("8: least distance, then least number", x.node(4, Checks.LEFT), 0);
        Checks.due("8: its right", x.node(4, Checks.RIGHT), 2);
        Checks.due("8: then the other pair", x.node(5, Checks.LEFT), 1);
        Checks.due("8: its right", x.node(5, Checks.RIGHT), 3);
        Checks.due("8: joins at last", x.node(6, Checks.LEFT), 4);
        Checks.due("8: its right", x.node(6, Checks.RIGHT), 5);
        // Every two of these are as far apart; a sink is as far from the first join as time is long.
        EvenClock even = Checks.at(0, 2, 2, 4, 4, 2, 2, 0);
        even.build(0);
        Checks.parts("8: even", even, 4, 0, 1, 5, 4096, 4096, -4096, 0, 2048, 0);
        Checks.parts("8: even", even, 5, 2, 4, 6, 4096, 4096, 0, 0, 2048);
        Checks.parts("8: even", even, 6, 3, 5, -1, 4096, 4096, 0, 0, 2048);
        Checks.due("8: even: wire above the left one", even.node(2, Checks.WIRE), 2048);
    }

    private static void buildByCutting() {
        // By x: 2, 0, 4 | 1, 3. The first ones by y: 0, 4 | 2, these by x; the others by y: 3, 1.
        EvenClock x = Checks.at(1, 0, 3, 5, 0, 9, 4, 1, 2, 3);
        x.build(1);
        Checks.parts("8: cut", x, 5, 0, 4, 6);
        Checks.parts("8: cut", x, 6, 5, 2, 8);
        Checks.parts("8: cut", x, 7, 3, 1, 8);
        Checks.parts("8: cut", x, 8, 6, 7, -1);
        // The same x: by y; the same place: by number.
        EvenClock same = Checks.at(5, 7, 5, 5, 5, 5, 5, 6);
        same.build(1);
        Checks.parts("8: same x", same, 4, 1, 2, 6);
        Checks.parts("8: same x", same, 5, 3, 0, 6);
        // By x 0, 1, 2 | 3, 4; the second cut finds the same y: by x, though the numbers are against it.
        EvenClock row = Checks.at(2, 5, 1, 5, 0, 5, 9, 5, 8, 5);
        row.build(1);
        Checks.parts("8: same y", row, 5, 2, 1, 6);
        Checks.parts("8: same y", row, 6, 5, 0, 8);
        Checks.parts("8: same y", row, 7, 4, 3, 8);
        // The third cut is by x again: by y it would be the other way round.
        EvenClock third = Checks.at(0, 1, 1, 0, 2, 50, 3, 51, 90, 0, 91, 1, 92, 50);
        third.build(1);
        Checks.parts("8: third cut", third, 7, 0, 1, 9);
        Checks.parts("8: third cut", third, 8, 2, 3, 9);
        Checks.parts("8: third cut", third, 10, 4, 5, 11);
        Checks.parts("8: third cut", third, 11, 10, 6, 12);
        Checks.parts("8: third cut", third, 12, 9, 11, -1);
    }

    private static void nodeOfOneSink() {
        EvenClock x = Checks.at(3, 1);
        x.source(1, 5);
        x.build(0);
        Checks.parts("9: one sink", x, 0, -1, -1, -1, 4096, 4096, 2048, 2048, 0, 6144, 4096, 2048);
        x.build(1);
        Checks.parts("9: one sink, other way", x, 0, -1, -1, -1, 4096, 4096, 2048, 2048, 0, 6144, 4096, 2048);
    }

    private static void nodeOfTwoSinks() {
        EvenClock x = builtPair();
        Checks.parts("9: two", x, 0, -1, -1, 2, 0, 0, 0, 0, 0, 2048, 0, 0);
        Checks.parts("9: two", x, 1, -1, -1, 2, 4096, 4096, 0, 0, 0, 2048, 4096, 0);
        Checks.parts("9: two", x, 2, 0, 1, -1, 2048, 2048, -2048, 2048, 2048, 2048, 2048, 0);
    }

    /** A node that is too near gets a wire that is longer than the way. */
    private static void nodeWithWireTooLong() {
        EvenClock right = Checks.at(0, 0, 0, 8, 1, 4);
        right.build(1);
        Checks.parts("9: long on the right", right, 3, 0, 1, 4, 4096, 4096, -4096, -4096, 4096, 0, 4096, -4096);
        Checks.parts("9: long on the right", right, 2, -1, -1, 4, 5120, 5120, -3072, -3072, 0, 4096, 5120, -3072);
        Checks.parts("9: long on the right", right, 4, 3, 2, -1, 4096, 4096, -4096, -4096, 4096, 4096, 4096, -4096);
        EvenClock left = Checks.at(4, 4, 4, 4, 5, 0, 5, 8);
        left.build(1);
        Checks.parts("9: long on the left", left, 4, 0, 1, 6, 8192, 8192, 0, 0, 0, 4096, 8192, 0);
        Checks.parts("9: long on the left", left, 5, 2, 3, 6, 9216, 9216, 1024, 1024, 4096, 0, 9216, 1024);
        Checks.parts("9: long on the left", left, 6, 4, 5, -1, 9216, 9216, 1024, 1024, 4096, 9216, 9216, 1024);
    }

    /** The joins 4 and 5 have regions of many places, and stand where the root is nearest. */
    private static void nodePlaces() {
        EvenClock x = Checks.at(0, 0, 2, 2, 10, 2, 12, 4);
        x.source(6, 0);
        x.build(1);
        // The root is the place u 8192, v 0 .. 8192, nearest to the source's v 6144.
        Checks.parts("9: places", x, 4, 0, 1, 6, 2048, 2048, -2048, 2048, 2048, 6144, 2048, 2048);
        Checks.parts("9: places", x, 5, 2, 3, 6, 14336, 14336, 6144, 10240, 2048, 6144, 14336, 6144);
        Checks.parts("9: places", x, 6, 4, 5, -1, 8192, 8192, 0, 8192, 8192, 2048, 8192, 6144);
        EvenClock y = Checks.at(0, 2, 2, 4, 10, 2, 12, 4);
        y.source(200, 0);
        y.build(0);
        // Regions u 4096, v -4096 .. 0 and u 14336, v 6144 .. 10240: 10240 apart, wires of 5120.
        Checks.parts("9: far source", y, 4, 0, 1, 6, 4096, 4096, -4096, 0, 2048, 5120, 4096, 0);
        Checks.parts("9: far source", y, 5, 2, 3, 6, 14336, 14336, 6144, 10240, 2048, 5120, 14336, 6144);
        Checks.parts("9: far source", y, 6, 4, 5, -1, 9216, 9216, 1024, 5120, 7168, 199680, 9216, 5120);
    }

    private static void nodeWrong() {
        EvenClock x = builtPair();
        Checks.refused("9: node under", Checks.INDEX, () -> x.node(-1, 0));
        Checks.refused("9: node over", Checks.INDEX, () -> x.node(3, 0));
        Checks.refused("9: part under", Checks.INDEX, () -> x.node(0, -1));
        Checks.refused("9: part over", Checks.INDEX, () -> x.node(0, 11));
        Checks.refused("9: far over", Checks.INDEX, () -> x.node(Integer.MAX_VALUE, Integer.MIN_VALUE));
    }

    private static void length() {
        Checks.due("10: two", builtPair().length(), 6144);
        EvenClock one = Checks.at(3, 1);
        one.build(0);
        Checks.due("10: one", one.length(), 4096);
        EvenClock x = Checks.at(0, 0, 0, 8, 1, 4);
        x.build(1);
        Checks.due("10: wires that are too long count whole", x.length(), 4 * 4096);
        x.cut(3);
        Checks.refused("10: no tree", Checks.STATE, () -> x.length());
    }

    private static void depth() {
        EvenClock x = Checks.at(0, 0, 1, 0, 3, 0, 7, 0, 15, 0);
        x.build(0);
        int[] chain = {4, 4, 3, 2, 1};
        for (int k = 0; k < 5; k++) {
            Checks.due("11: chain", x.depth(k), chain[k]);
        }
        x.build(1);
        int[] halves = {3, 3, 2, 2, 2};
        for (int k = 0; k < 5; k++) {
            Checks.due("11: halves", x.depth(k), halves[k]);
        }
        Checks.refused("11: under", Checks.INDEX, () -> x.depth(-1));
        Checks.refused("11: a join", Checks.INDEX, () -> x.depth(5));
        EvenClock one = Checks.at(3, 1);
        one.build(0);
        Checks.due("11: one", one.depth(0), 0);
    }

    private static void set() {
        EvenClock x = Checks.at(0, 0, 2, 2, 10, 2);
        x.build(0);
        Checks.due("12: taken from none", x.set(3, false), false);
        Checks.due("12: set", x.set(3, true), true);
        Checks.due("12: set again", x.set(3, true), false);
        Checks.due("12: the other", x.set(4, true), true);
        Checks.due("12: shown", x.load(3, true), 1024);
        Checks.due("12: taken away", x.set(3, false), true);
        Checks.due("12: taken away again", x.set(3, false), false);
        Checks.due("12: the other stays", x.setting(), 2);
        Checks.refused("12: a sink", Checks.INDEX, () -> x.set(2, true));
        Checks.refused("12: over", Checks.INDEX, () -> x.set(5, true));
        Checks.refused("12: under", Checks.INDEX, () -> x.set(-1, false));
        Checks.refused("12: far over", Checks.INDEX, () -> x.set(35, true));
        Checks.due("12: wrong ones change nothing", x.setting(), 2);
        EvenClock one = Checks.at(3, 1);
        one.build(0);
        Checks.refused("12: one sink has no join", Checks.INDEX, () -> one.set(0, true));
        Checks.refused("12: nor a second", Checks.INDEX, () -> one.set(1, true));
    }

    private static void setting() {
        EvenClock x = new EvenClock();
        for (int k = 0; k < 10; k++) {
            x.sink(k, 0, 1, 1);
        }
        x.build(1);
        Checks.due("13: none", x.setting(), 0);
        for (int join = 10; join < 19; join++) {
            x.set(join, true);
            Checks.due("13: so many", x.setting(), (1 << (join - 9)) - 1);
        }
        x.set(10, false);
        Checks.due("13: all but one", x.setting(), 510);
        x.build(0);
        Checks.due("13: none in a new tree", x.setting(), 0);
        EvenClock one = Checks.at(3, 1);
        one.build(0);
        Checks.due("13: one sink", one.setting(), 0);
    }

    private static void load() {
        EvenClock x = builtPair();
        Checks.due("14: a sink bears", x.load(1, false), 3072);
        Checks.due("14: a sink shows", x.load(1, true), 3072);
        Checks.due("14: a join bears", x.load(2, false), 8192);
        Checks.due("14: a join shows", x.load(2, true), 8192);
        x.set(2, true);
        Checks.due("14: with a buffer bears", x.load(2, false), 8192);
        Checks.due("14: with a buffer shows", x.load(2, true), 1024);
        Checks.refused("14: under", Checks.INDEX, () -> x.load(-1, false));
        Checks.refused("14: over", Checks.INDEX, () -> x.load(3, true));
        EvenClock three = Checks.at(0, 0, 2, 2, 10, 2);
        three.buffer(100, 1, 0);
        three.build(0);
        // 2048 above 0 and 1; join 3 at u 2048, v to 2048; sink 2 is 10240 from there: 4096 and 6144.
        Checks.due("14: the wire above 3", three.node(3, Checks.WIRE), 4096);
        Checks.due("14: of three", three.load(4, false), 6144 + 4096 + 1024 + 6144);
        three.set(3, true);
        Checks.due("14: a buffer below", three.load(4, false), 102400 + 4096 + 1024 + 6144);
        Checks.due("14: shown as borne above", three.load(4, true), 102400 + 4096 + 1024 + 6144);
    }

    private static void delay() {
        EvenClock x = builtPair();
        Checks.due("15: first", x.delay(0), 46137344);
        Checks.due("15: second", x.delay(1), 54525952);
        x.set(2, true);
        Checks.due("15: first with a buffer", x.delay(0), 16793600);
        Checks.due("15: second with a buffer", x.delay(1), 25182208);
        Checks.refused("15: under", Checks.INDEX, () -> x.delay(-1));
        Checks.refused("15: a join", Checks.INDEX, () -> x.delay(2));
        EvenClock one = Checks.at(3, 1);
        one.build(1);
        Checks.due("15: one", one.delay(0), 4096L * (4096 + 2048));
        EvenClock same = Checks.at(5, 5, 5, 5);
        same.source(5, 5);
        same.build(0);
        Checks.due("15: no wire", same.delay(1), 0);
        same.buffer(1, 2, 3);
        same.set(2, true);
        Checks.due("15: a buffer alone", same.delay(1), 3 + 4 * 2048);
    }

    private static void slack() {
        EvenClock x = builtPair();
        Checks.due("16: none set", x.slack(), -35651584);
        x.set(2, true);
        Checks.due("16: set", x.slack(), -6307840);
        x.set(2, false);
        Checks.due("16: taken away", x.slack(), -35651584);
        EvenClock same = new EvenClock();
        same.sink(5, 5, 1, 1000000000);
        same.source(5, 5);
        same.build(0);
        Checks.due("16: the need alone", same.slack(), 1048576000000000L);
        same.sink(5, 5, 1, 7);
        same.build(0);
        Checks.due("16: the least one", same.slack(), 7340032);
    }

    private static void best() {
        EvenClock x = builtPair();
        Checks.due("17: with the buffer", x.best(), -6307840);
        Checks.due("17: it sets none", x.setting(), 0);
        Checks.due("17: nor is slack changed", x.slack(), -35651584);
        x.set(2, true);
        x.buffer(1000000, 1, 0);
        Checks.due("17: without it", x.best(), -35651584);
        Checks.due("17: it takes none away", x.setting(), 1);
        x.buffer(1, 1, 0);
        Checks.due("17: with the present buffer", x.best(), -6307840);
        x.wires(2, 3);
        Checks.due("17: with the present wires", x.best(),
                20971520 - (4096L * (6144 + 6144) + 4096L * (6144 + 2048) + 2 * 16384));
        EvenClock one = Checks.at(3, 1);
        one.build(1);
        Checks.due("17: one", one.best(), -4096L * (4096 + 2048));
    }

    private static void improve() {
        EvenClock x = builtPair();
        Checks.due("18: set", x.improve(), 1);
        Checks.due("18: it is the present one", x.setting(), 1);
        Checks.due("18: its slack", x.slack(), -6307840);
        Checks.due("18: again", x.improve(), 1);
        x.buffer(1000000, 1, 0);
        Checks.due("18: taken away", x.improve(), 0);
        Checks.due("18: it is the present one, too", x.setting(), 0);
        EvenClock one = Checks.at(3, 1);
        one.build(1);
        Checks.due("18: one", one.improve(), 0);
        // The last sink is the worst, whatever is set at 4 or 5; one of these is needed, or both.
        EvenClock ties = new EvenClock();
        ties.sink(3, 1, 9, 78);
        ties.sink(0, 0, 12, 351);
        ties.sink(4, 0, 18, 102);
        ties.sink(4, 4, 19, 3);
        ties.source(4, 0);
        ties.buffer(3, 1, 0);
        ties.build(0);
        long[] slacks = new long[8];
        for (int number = 0; number < 8; number++) {
            for (int join = 0; join < 3; join++) {
                ties.set(4 + join, (number >> join & 1) != 0);
            }
            slacks[number] = ties.slack();
        }
        Checks.due("18: 2 is as good as 1", slacks[2], slacks[1]);
        Checks.due("18: 3 is as good as 1", slacks[3], slacks[1]);
        Checks.due("18: 0 is less good", slacks[0] < slacks[1], true);
        Checks.due("18: least number of several", ties.improve(), 1);
        Checks.due("18: with their slack", ties.best(), slacks[1]);
    }

    /** Far beyond an int: nothing wraps around. */
    private static void greatNumbers() {
        EvenClock x = new EvenClock();
        x.wires(20, 20);
        x.buffer(1000000, 1000, 1000000000);
        x.sink(0, 0, 100, 1000000000);
        x.sink(200, 200, 100, 1000000000);
        x.source(200, 0);
        x.build(0);
        // Wires of 204800 to both sinks, none above the root.
        long wire = 20L * 204800 * (20L * 204800 + 2 * 102400);
        Checks.due("15: great delay", x.delay(0), wire);
        x.set(2, true);
        long bears = 2 * (102400 + 20L * 204800);
        Checks.due("15: great delay with a buffer", x.delay(1), wire + 1000000000 + 2000 * bears);
        x.source(0, 0);
        x.build(0);
        x.set(2, true);
        long above = 20L * 204800 * (20L * 204800 + 2 * 1024000000L);
        Checks.due("16: great slack", x.slack(),
                1048576000000000L - (wire + above + 1000000000 + 2000 * bears));
    }
}
