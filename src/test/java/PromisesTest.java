import java.util.NoSuchElementException;

/** For each promise of the document: answers worked out by hand, the edges it names, wrong inputs. */
public final class PromisesTest {
    private static final Class<? extends RuntimeException> ARGUMENT = IllegalArgumentException.class;
    private static final Class<? extends RuntimeException> STATE = IllegalStateException.class;
    private static final Class<? extends RuntimeException> INDEX = IndexOutOfBoundsException.class;
    private static final Class<? extends RuntimeException> FULL = UnsupportedOperationException.class;
    private static final Class<? extends RuntimeException> EMPTY = NoSuchElementException.class;

    private static final int LEFT = 0;
    private static final int RIGHT = 1;
    private static final int PARENT = 2;
    private static final int TIME = 7;
    private static final int WIRE = 8;

    private static int wrong = 0;

    public static void main(String[] args) {
        newObject();
        sink();
        cut();
        source();
        wires();
        buffer();
        sinks();
        buildAnswers();
        buildByDistance();
        buildByCutting();
        nodeOfOneSink();
        nodeOfTwoSinks();
        nodeWithWireTooLong();
        nodePlaces();
        nodeWrong();
        length();
        depth();
        set();
        setting();
        load();
        delay();
        slack();
        best();
        improve();
        greatNumbers();
        System.out.println(wrong == 0 ? "all promises hold" : wrong + " answers are wrong");
        System.exit(wrong == 0 ? 0 : 1);
    }

    private static void due(String what, long got, long want) {
        if (got != want) {
            wrong++;
            System.out.println(what + " answered " + got + ", due is " + want);
        }
    }

    private static void due(String what, boolean got, boolean want) {
        due(what, got ? 1 : 0, want ? 1 : 0);
    }

    private static void refused(String what, Class<? extends RuntimeException> want, Runnable call) {
        String got = "nothing";
        try {
            call.run();
        } catch (RuntimeException e) {
            got = e.getClass().getName();
        }
        if (!got.equals(want.getName())) {
            wrong++;
            System.out.println(what + " threw " + got + ", due is " + want.getName());
        }
    }

    private static void parts(String what, EvenClock x, int k, int... want) {
        for (int part = 0; part < want.length; part++) {
            due(what + ": node(" + k + ", " + part + ")", x.node(k, part), want[part]);
        }
    }

    /** Wires of 2048 above both sinks; the root's region has u 2048 and v from -2048 to 2048. */
    private static EvenClock pair() {
        EvenClock x = new EvenClock();
        x.sink(0, 0, 1, 10);
        x.sink(2, 2, 3, 20);
        return x;
    }

    private static EvenClock builtPair() {
        EvenClock x = pair();
        x.build(0);
        return x;
    }

    private static EvenClock at(int... xy) {
        EvenClock x = new EvenClock();
        for (int i = 0; i < xy.length; i += 2) {
            x.sink(xy[i], xy[i + 1], 1, 0);
        }
        return x;
    }

    private static void noTree(String what, EvenClock x) {
        refused(what + ": node", STATE, () -> x.node(0, 0));
        refused(what + ": node that is not", STATE, () -> x.node(-1, 11));
        refused(what + ": length", STATE, () -> x.length());
        refused(what + ": depth", STATE, () -> x.depth(0));
        refused(what + ": depth of none", STATE, () -> x.depth(-1));
        refused(what + ": set", STATE, () -> x.set(2, true));
        refused(what + ": set at none", STATE, () -> x.set(-1, true));
        refused(what + ": setting", STATE, () -> x.setting());
        refused(what + ": load", STATE, () -> x.load(0, false));
        refused(what + ": load of none", STATE, () -> x.load(-1, true));
        refused(what + ": delay", STATE, () -> x.delay(0));
        refused(what + ": delay of none", STATE, () -> x.delay(99));
        refused(what + ": slack", STATE, () -> x.slack());
        refused(what + ": best", STATE, () -> x.best());
        refused(what + ": improve", STATE, () -> x.improve());
    }

    private static void newObject() {
        EvenClock x = new EvenClock();
        due("1: sinks", x.sinks(), 0);
        noTree("1: new", x);
        EvenClock other = pair();
        other.build(0);
        due("1: another object's sinks", x.sinks(), 0);
        noTree("1: beside another object", x);
    }

    private static void sink() {
        EvenClock x = new EvenClock();
        due("2: least", x.sink(0, 0, 1, 0), 0);
        due("2: greatest", x.sink(200, 200, 100, 1000000000), 1);
        refused("2: x under", ARGUMENT, () -> x.sink(-1, 0, 1, 0));
        refused("2: x over", ARGUMENT, () -> x.sink(201, 0, 1, 0));
        refused("2: y under", ARGUMENT, () -> x.sink(0, -1, 1, 0));
        refused("2: y over", ARGUMENT, () -> x.sink(0, 201, 1, 0));
        refused("2: load under", ARGUMENT, () -> x.sink(0, 0, 0, 0));
        refused("2: load over", ARGUMENT, () -> x.sink(0, 0, 101, 0));
        refused("2: need under", ARGUMENT, () -> x.sink(0, 0, 1, -1));
        refused("2: need over", ARGUMENT, () -> x.sink(0, 0, 1, 1000000001));
        due("2: none came of wrong ones", x.sinks(), 2);
        x.build(0);
        refused("2: wrong with a tree", ARGUMENT, () -> x.sink(0, 0, 0, 0));
        due("2: a wrong one leaves the tree", x.node(2, LEFT), 0);
        for (int k = 2; k < 10; k++) {
            due("2: next", x.sink(k, k, 1, 0), k);
            noTree("2: a sink ends the tree", x);
        }
        due("2: ten's tree", x.build(1), 19);
        refused("2: eleventh", FULL, () -> x.sink(0, 0, 1, 0));
        refused("2: eleventh and wrong", ARGUMENT, () -> x.sink(0, 0, 0, 0));
        due("2: ten stay", x.sinks(), 10);
        due("2: an eleventh leaves the tree", x.node(18, PARENT), -1);
    }

    private static void cut() {
        EvenClock x = at(0, 0, 2, 2, 9, 9);
        refused("3: negative", ARGUMENT, () -> x.cut(-1));
        refused("3: too many", ARGUMENT, () -> x.cut(4));
        x.build(0);
        refused("3: too many with a tree", ARGUMENT, () -> x.cut(4));
        due("3: a wrong one leaves the tree", x.node(4, PARENT), -1);
        x.cut(3);
        due("3: all stay", x.sinks(), 3);
        noTree("3: cut ends the tree", x);
        x.cut(1);
        due("3: one stays", x.sinks(), 1);
        due("3: the first one stays", x.build(0), 1);
        due("3: its u", x.node(0, 3), 0);
        due("3: the next number", x.sink(7, 1, 2, 3), 1);
        x.build(0);
        due("3: the new one's u", x.node(1, 3), 8192);
        due("3: the new one's load", x.load(1, false), 2048);
        x.cut(0);
        due("3: none stays", x.sinks(), 0);
        refused("3: one of none", ARGUMENT, () -> x.cut(1));
        x.cut(0);
    }

    private static void source() {
        EvenClock x = pair();
        refused("4: x under", ARGUMENT, () -> x.source(-1, 0));
        refused("4: x over", ARGUMENT, () -> x.source(201, 0));
        refused("4: y under", ARGUMENT, () -> x.source(0, -1));
        refused("4: y over", ARGUMENT, () -> x.source(0, 201));
        x.build(0);
        due("4: at first u is that of 0, 0", x.node(2, WIRE), 2048);
        due("4: at first v is that of 0, 0", x.node(2, 10), 0);
        refused("4: wrong with a tree", ARGUMENT, () -> x.source(0, 201));
        due("4: a wrong one leaves the tree", x.node(2, WIRE), 2048);
        x.source(0, 0);
        noTree("4: the same source ends the tree, too", x);
        x.source(2, 0);
        x.build(0);
        due("4: from 2, 0", x.node(2, WIRE), 0);
        due("4: v of the root", x.node(2, 10), 2048);
        x.source(200, 0);
        x.build(0);
        due("4: from 200, 0", x.node(2, WIRE), 202752);
        x.source(0, 200);
        x.build(0);
        due("4: from 0, 200", x.node(2, WIRE), 202752);
        due("4: v of the root then", x.node(2, 10), -2048);
    }

    private static void wires() {
        EvenClock x = builtPair();
        due("5: at first", x.load(2, false), 8192);
        x.set(2, true);
        x.wires(2, 3);
        due("5: the tree and its setting stay", x.setting(), 1);
        due("5: capacity", x.load(2, false), 16384);
        refused("5: r under", ARGUMENT, () -> x.wires(0, 1));
        refused("5: r over", ARGUMENT, () -> x.wires(21, 1));
        refused("5: c under", ARGUMENT, () -> x.wires(1, 0));
        refused("5: c over", ARGUMENT, () -> x.wires(1, 21));
        due("5: wrong ones change nothing", x.load(2, false), 16384);
        x.set(2, false);
        due("5: resistance", x.delay(0), 4096L * (6144 + 2048) + 4096L * (6144 + 32768));
        x.wires(20, 20);
        due("5: greatest", x.load(2, false), 1024 + 3072 + 2 * 40960);
        x.wires(1, 1);
        due("5: least", x.load(2, false), 8192);
        x.wires(1, 2);
        x.sink(5, 5, 1, 1);
        x.build(1);
        x.cut(2);
        x.build(1);
        due("5: they stay for later trees", x.load(2, false), 12288);
    }

    private static void buffer() {
        EvenClock x = builtPair();
        x.set(2, true);
        due("6: input at first", x.load(2, true), 1024);
        due("6: drive and delay at first", x.delay(0), 8388608 + 8388608 + 16384);
        x.buffer(5, 3, 7);
        due("6: the tree and its setting stay", x.setting(), 1);
        due("6: input", x.load(2, true), 5120);
        due("6: drive and delay", x.delay(0), 25165824 + 8388608 + 49159);
        refused("6: input under", ARGUMENT, () -> x.buffer(0, 1, 0));
        refused("6: input over", ARGUMENT, () -> x.buffer(1000001, 1, 0));
        refused("6: drive under", ARGUMENT, () -> x.buffer(1, 0, 0));
        refused("6: drive over", ARGUMENT, () -> x.buffer(1, 1001, 0));
        refused("6: delay under", ARGUMENT, () -> x.buffer(1, 1, -1));
        refused("6: delay over", ARGUMENT, () -> x.buffer(1, 1, 1000000001));
        due("6: wrong ones change nothing", x.delay(0), 25165824 + 8388608 + 49159);
        x.buffer(1000000, 1000, 1000000000);
        due("6: greatest", x.delay(0),
                2048L * (2048 + 2048000000L) + 8388608 + 1000000000 + 2000L * 8192);
        x.buffer(1, 1, 0);
        due("6: least", x.delay(0), 8388608 + 8388608 + 16384);
        x.buffer(9, 1, 0);
        x.source(1, 1);
        x.build(0);
        x.set(2, true);
        due("6: it stays for later trees", x.load(2, true), 9216);
    }

    private static void sinks() {
        EvenClock x = new EvenClock();
        for (int k = 0; k < 10; k++) {
            due("7: before", x.sinks(), k);
            x.sink(1, 1, 1, 1);
        }
        due("7: ten", x.sinks(), 10);
        x.build(0);
        due("7: with a tree", x.sinks(), 10);
        due("7: it leaves the tree", x.setting(), 0);
        x.cut(4);
        due("7: after a cut", x.sinks(), 4);
    }

    private static void buildAnswers() {
        EvenClock x = new EvenClock();
        refused("8: no sink", EMPTY, () -> x.build(0));
        refused("8: no sink, other way", EMPTY, () -> x.build(1));
        refused("8: no sink and no such way", ARGUMENT, () -> x.build(2));
        for (int n = 1; n <= 10; n++) {
            x.sink(n * n, 7 * n % 10, 1, 1);
            due("8: nodes by way 0", x.build(0), 2 * n - 1);
            due("8: nodes by way 1", x.build(1), 2 * n - 1);
        }
        x.set(10, true);
        refused("8: way under", ARGUMENT, () -> x.build(-1));
        refused("8: way over", ARGUMENT, () -> x.build(2));
        due("8: wrong ones leave the tree", x.setting(), 1);
        x.build(1);
        due("8: no buffers in the new tree", x.setting(), 0);
        x.cut(0);
        refused("8: none left", EMPTY, () -> x.build(1));
    }

    private static void buildByDistance() {
        EvenClock x = at(0, 0, 9, 9, 1, 0, 9, 8);
        x.build(0);
        due("8: least distance, then least number", x.node(4, LEFT), 0);
        due("8: its right", x.node(4, RIGHT), 2);
        due("8: then the other pair", x.node(5, LEFT), 1);
        due("8: its right", x.node(5, RIGHT), 3);
        due("8: joins at last", x.node(6, LEFT), 4);
        due("8: its right", x.node(6, RIGHT), 5);
        // Every two of these are as far apart; a sink is as far from the first join as time is long.
        EvenClock even = at(0, 2, 2, 4, 4, 2, 2, 0);
        even.build(0);
        parts("8: even", even, 4, 0, 1, 5, 4096, 4096, -4096, 0, 2048, 0);
        parts("8: even", even, 5, 2, 4, 6, 4096, 4096, 0, 0, 2048);
        parts("8: even", even, 6, 3, 5, -1, 4096, 4096, 0, 0, 2048);
        due("8: even: wire above the left one", even.node(2, WIRE), 2048);
    }

    private static void buildByCutting() {
        // By x: 2, 0, 4 | 1, 3. The first ones by y: 0, 4 | 2, these by x; the others by y: 3, 1.
        EvenClock x = at(1, 0, 3, 5, 0, 9, 4, 1, 2, 3);
        x.build(1);
        parts("8: cut", x, 5, 0, 4, 6);
        parts("8: cut", x, 6, 5, 2, 8);
        parts("8: cut", x, 7, 3, 1, 8);
        parts("8: cut", x, 8, 6, 7, -1);
        // The same x: by y; the same place: by number.
        EvenClock same = at(5, 7, 5, 5, 5, 5, 5, 6);
        same.build(1);
        parts("8: same x", same, 4, 1, 2, 6);
        parts("8: same x", same, 5, 3, 0, 6);
        // By x 0, 1, 2 | 3, 4; the second cut finds the same y: by x, though the numbers are against it.
        EvenClock row = at(2, 5, 1, 5, 0, 5, 9, 5, 8, 5);
        row.build(1);
        parts("8: same y", row, 5, 2, 1, 6);
        parts("8: same y", row, 6, 5, 0, 8);
        parts("8: same y", row, 7, 4, 3, 8);
        // The third cut is by x again: by y it would be the other way round.
        EvenClock third = at(0, 1, 1, 0, 2, 50, 3, 51, 90, 0, 91, 1, 92, 50);
        third.build(1);
        parts("8: third cut", third, 7, 0, 1, 9);
        parts("8: third cut", third, 8, 2, 3, 9);
        parts("8: third cut", third, 10, 4, 5, 11);
        parts("8: third cut", third, 11, 10, 6, 12);
        parts("8: third cut", third, 12, 9, 11, -1);
    }

    private static void nodeOfOneSink() {
        EvenClock x = at(3, 1);
        x.source(1, 5);
        x.build(0);
        parts("9: one sink", x, 0, -1, -1, -1, 4096, 4096, 2048, 2048, 0, 6144, 4096, 2048);
        x.build(1);
        parts("9: one sink, other way", x, 0, -1, -1, -1, 4096, 4096, 2048, 2048, 0, 6144, 4096, 2048);
    }

    private static void nodeOfTwoSinks() {
        EvenClock x = builtPair();
        parts("9: two", x, 0, -1, -1, 2, 0, 0, 0, 0, 0, 2048, 0, 0);
        parts("9: two", x, 1, -1, -1, 2, 4096, 4096, 0, 0, 0, 2048, 4096, 0);
        parts("9: two", x, 2, 0, 1, -1, 2048, 2048, -2048, 2048, 2048, 2048, 2048, 0);
    }

    /** A node that is too near gets a wire that is longer than the way. */
    private static void nodeWithWireTooLong() {
        EvenClock right = at(0, 0, 0, 8, 1, 4);
        right.build(1);
        parts("9: long on the right", right, 3, 0, 1, 4, 4096, 4096, -4096, -4096, 4096, 0, 4096, -4096);
        parts("9: long on the right", right, 2, -1, -1, 4, 5120, 5120, -3072, -3072, 0, 4096, 5120, -3072);
        parts("9: long on the right", right, 4, 3, 2, -1, 4096, 4096, -4096, -4096, 4096, 4096, 4096, -4096);
        EvenClock left = at(4, 4, 4, 4, 5, 0, 5, 8);
        left.build(1);
        parts("9: long on the left", left, 4, 0, 1, 6, 8192, 8192, 0, 0, 0, 4096, 8192, 0);
        parts("9: long on the left", left, 5, 2, 3, 6, 9216, 9216, 1024, 1024, 4096, 0, 9216, 1024);
        parts("9: long on the left", left, 6, 4, 5, -1, 9216, 9216, 1024, 1024, 4096, 9216, 9216, 1024);
    }

    /** The joins 4 and 5 have regions of many places, and stand where the root is nearest. */
    private static void nodePlaces() {
        EvenClock x = at(0, 0, 2, 2, 10, 2, 12, 4);
        x.source(6, 0);
        x.build(1);
        // The root is the place u 8192, v 0 .. 8192, nearest to the source's v 6144.
        parts("9: places", x, 4, 0, 1, 6, 2048, 2048, -2048, 2048, 2048, 6144, 2048, 2048);
        parts("9: places", x, 5, 2, 3, 6, 14336, 14336, 6144, 10240, 2048, 6144, 14336, 6144);
        parts("9: places", x, 6, 4, 5, -1, 8192, 8192, 0, 8192, 8192, 2048, 8192, 6144);
        EvenClock y = at(0, 2, 2, 4, 10, 2, 12, 4);
        y.source(200, 0);
        y.build(0);
        // Regions u 4096, v -4096 .. 0 and u 14336, v 6144 .. 10240: 10240 apart, wires of 5120.
        parts("9: far source", y, 4, 0, 1, 6, 4096, 4096, -4096, 0, 2048, 5120, 4096, 0);
        parts("9: far source", y, 5, 2, 3, 6, 14336, 14336, 6144, 10240, 2048, 5120, 14336, 6144);
        parts("9: far source", y, 6, 4, 5, -1, 9216, 9216, 1024, 5120, 7168, 199680, 9216, 5120);
    }

    private static void nodeWrong() {
        EvenClock x = builtPair();
        refused("9: node under", INDEX, () -> x.node(-1, 0));
        refused("9: node over", INDEX, () -> x.node(3, 0));
        refused("9: part under", INDEX, () -> x.node(0, -1));
        refused("9: part over", INDEX, () -> x.node(0, 11));
        refused("9: far over", INDEX, () -> x.node(Integer.MAX_VALUE, Integer.MIN_VALUE));
    }

    private static void length() {
        due("10: two", builtPair().length(), 6144);
        EvenClock one = at(3, 1);
        one.build(0);
        due("10: one", one.length(), 4096);
        EvenClock x = at(0, 0, 0, 8, 1, 4);
        x.build(1);
        due("10: wires that are too long count whole", x.length(), 4 * 4096);
        x.cut(3);
        refused("10: no tree", STATE, () -> x.length());
    }

    private static void depth() {
        EvenClock x = at(0, 0, 1, 0, 3, 0, 7, 0, 15, 0);
        x.build(0);
        int[] chain = {4, 4, 3, 2, 1};
        for (int k = 0; k < 5; k++) {
            due("11: chain", x.depth(k), chain[k]);
        }
        x.build(1);
        int[] halves = {3, 3, 2, 2, 2};
        for (int k = 0; k < 5; k++) {
            due("11: halves", x.depth(k), halves[k]);
        }
        refused("11: under", INDEX, () -> x.depth(-1));
        refused("11: a join", INDEX, () -> x.depth(5));
        EvenClock one = at(3, 1);
        one.build(0);
        due("11: one", one.depth(0), 0);
    }

    private static void set() {
        EvenClock x = at(0, 0, 2, 2, 10, 2);
        x.build(0);
        due("12: taken from none", x.set(3, false), false);
        due("12: set", x.set(3, true), true);
        due("12: set again", x.set(3, true), false);
        due("12: the other", x.set(4, true), true);
        due("12: shown", x.load(3, true), 1024);
        due("12: taken away", x.set(3, false), true);
        due("12: taken away again", x.set(3, false), false);
        due("12: the other stays", x.setting(), 2);
        refused("12: a sink", INDEX, () -> x.set(2, true));
        refused("12: over", INDEX, () -> x.set(5, true));
        refused("12: under", INDEX, () -> x.set(-1, false));
        refused("12: far over", INDEX, () -> x.set(35, true));
        due("12: wrong ones change nothing", x.setting(), 2);
        EvenClock one = at(3, 1);
        one.build(0);
        refused("12: one sink has no join", INDEX, () -> one.set(0, true));
        refused("12: nor a second", INDEX, () -> one.set(1, true));
    }

    private static void setting() {
        EvenClock x = new EvenClock();
        for (int k = 0; k < 10; k++) {
            x.sink(k, 0, 1, 1);
        }
        x.build(1);
        due("13: none", x.setting(), 0);
        for (int join = 10; join < 19; join++) {
            x.set(join, true);
            due("13: so many", x.setting(), (1 << (join - 9)) - 1);
        }
        x.set(10, false);
        due("13: all but one", x.setting(), 510);
        x.build(0);
        due("13: none in a new tree", x.setting(), 0);
        EvenClock one = at(3, 1);
        one.build(0);
        due("13: one sink", one.setting(), 0);
    }

    private static void load() {
        EvenClock x = builtPair();
        due("14: a sink bears", x.load(1, false), 3072);
        due("14: a sink shows", x.load(1, true), 3072);
        due("14: a join bears", x.load(2, false), 8192);
        due("14: a join shows", x.load(2, true), 8192);
        x.set(2, true);
        due("14: with a buffer bears", x.load(2, false), 8192);
        due("14: with a buffer shows", x.load(2, true), 1024);
        refused("14: under", INDEX, () -> x.load(-1, false));
        refused("14: over", INDEX, () -> x.load(3, true));
        EvenClock three = at(0, 0, 2, 2, 10, 2);
        three.buffer(100, 1, 0);
        three.build(0);
        // 2048 above 0 and 1; join 3 at u 2048, v to 2048; sink 2 is 10240 from there: 4096 and 6144.
        due("14: the wire above 3", three.node(3, WIRE), 4096);
        due("14: of three", three.load(4, false), 6144 + 4096 + 1024 + 6144);
        three.set(3, true);
        due("14: a buffer below", three.load(4, false), 102400 + 4096 + 1024 + 6144);
        due("14: shown as borne above", three.load(4, true), 102400 + 4096 + 1024 + 6144);
    }

    private static void delay() {
        EvenClock x = builtPair();
        due("15: first", x.delay(0), 46137344);
        due("15: second", x.delay(1), 54525952);
        x.set(2, true);
        due("15: first with a buffer", x.delay(0), 16793600);
        due("15: second with a buffer", x.delay(1), 25182208);
        refused("15: under", INDEX, () -> x.delay(-1));
        refused("15: a join", INDEX, () -> x.delay(2));
        EvenClock one = at(3, 1);
        one.build(1);
        due("15: one", one.delay(0), 4096L * (4096 + 2048));
        EvenClock same = at(5, 5, 5, 5);
        same.source(5, 5);
        same.build(0);
        due("15: no wire", same.delay(1), 0);
        same.buffer(1, 2, 3);
        same.set(2, true);
        due("15: a buffer alone", same.delay(1), 3 + 4 * 2048);
    }

    private static void slack() {
        EvenClock x = builtPair();
        due("16: none set", x.slack(), -35651584);
        x.set(2, true);
        due("16: set", x.slack(), -6307840);
        x.set(2, false);
        due("16: taken away", x.slack(), -35651584);
        EvenClock same = new EvenClock();
        same.sink(5, 5, 1, 1000000000);
        same.source(5, 5);
        same.build(0);
        due("16: the need alone", same.slack(), 1048576000000000L);
        same.sink(5, 5, 1, 7);
        same.build(0);
        due("16: the least one", same.slack(), 7340032);
    }

    private static void best() {
        EvenClock x = builtPair();
        due("17: with the buffer", x.best(), -6307840);
        due("17: it sets none", x.setting(), 0);
        due("17: nor is slack changed", x.slack(), -35651584);
        x.set(2, true);
        x.buffer(1000000, 1, 0);
        due("17: without it", x.best(), -35651584);
        due("17: it takes none away", x.setting(), 1);
        x.buffer(1, 1, 0);
        due("17: with the present buffer", x.best(), -6307840);
        x.wires(2, 3);
        due("17: with the present wires", x.best(),
                20971520 - (4096L * (6144 + 6144) + 4096L * (6144 + 2048) + 2 * 16384));
        EvenClock one = at(3, 1);
        one.build(1);
        due("17: one", one.best(), -4096L * (4096 + 2048));
    }

    private static void improve() {
        EvenClock x = builtPair();
        due("18: set", x.improve(), 1);
        due("18: it is the present one", x.setting(), 1);
        due("18: its slack", x.slack(), -6307840);
        due("18: again", x.improve(), 1);
        x.buffer(1000000, 1, 0);
        due("18: taken away", x.improve(), 0);
        due("18: it is the present one, too", x.setting(), 0);
        EvenClock one = at(3, 1);
        one.build(1);
        due("18: one", one.improve(), 0);
        // The last sink is the worst, whatever is set at 4 or 5; one of these is needed, or both.
        EvenClock ties = new EvenClock();
        ties.sink(3, 1, 9, 78);
        ties.sink(0, 0, 12, 351);
        ties.sink(4, 0, 18, 102);
        ties.sink(4, 4, 19, 3);
        ties.source(4, 0);
        ties.buffer(3, 1, 0);
        ties.build(0);
        long[] slacks = new long[8];
        for (int number = 0; number < 8; number++) {
            for (int join = 0; join < 3; join++) {
                ties.set(4 + join, (number >> join & 1) != 0);
            }
            slacks[number] = ties.slack();
        }
        due("18: 2 is as good as 1", slacks[2], slacks[1]);
        due("18: 3 is as good as 1", slacks[3], slacks[1]);
        due("18: 0 is less good", slacks[0] < slacks[1], true);
        due("18: least number of several", ties.improve(), 1);
        due("18: with their slack", ties.best(), slacks[1]);
    }

    /** Far beyond an int: nothing wraps around. */
    private static void greatNumbers() {
        EvenClock x = new EvenClock();
        x.wires(20, 20);
        x.buffer(1000000, 1000, 1000000000);
        x.sink(0, 0, 100, 1000000000);
        x.sink(200, 200, 100, 1000000000);
        x.source(200, 0);
        x.build(0);
        // Wires of 204800 to both sinks, none above the root.
        long wire = 20L * 204800 * (20L * 204800 + 2 * 102400);
        due("15: great delay", x.delay(0), wire);
        x.set(2, true);
        long bears = 2 * (102400 + 20L * 204800);
        due("15: great delay with a buffer", x.delay(1), wire + 1000000000 + 2000 * bears);
        x.source(0, 0);
        x.build(0);
        x.set(2, true);
        long above = 20L * 204800 * (20L * 204800 + 2 * 1024000000L);
        due("16: great slack", x.slack(),
                1048576000000000L - (wire + above + 1000000000 + 2000 * bears));
    }
}
