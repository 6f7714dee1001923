import java.util.function.Consumer;

/**
 * Promises 1 to 18 of the document, sentence by sentence: each stands here word for word, with a test that
 * fails if it is broken, its answers worked out by hand. The edges are in the tests of bounds.
 */
public final class PromisesTest {
    private static final String NO_TREE = "IllegalStateException when there is no tree.";
    private static final String NO_TREE_OR = "IllegalStateException when there is no tree;";

    public static void main(String[] args) {
        newObject();
        sink();
        cut();
        source();
        wires();
        buffer();
        sinks();
        build();
        node();
        length();
        depth();
        set();
        setting();
        load();
        delay();
        slack();
        best();
        improve();
        notPromised();
        Document.isWhole("Promise 1", "nothing");
        Checks.finish();
    }

    private static EvenClock pair() {
        EvenClock x = new EvenClock();
        x.sink(0, 0, 1, 10);
        x.sink(2, 2, 3, 20);
        return x;
    }

    /** Wires of 2048 above both sinks and above the root, which stands at u 2048, v 0 and bears 8192. */
    private static EvenClock builtPair() {
        EvenClock x = pair();
        x.build(0);
        return x;
    }

    /** A call that is right in the tree of the pair is refused as long as there is none. */
    private static void needsTree(Consumer<EvenClock> call) {
        EvenClock x = new EvenClock();
        Checks.refused("new", Checks.STATE, () -> call.accept(x));
        x.sink(0, 0, 1, 10);
        x.sink(2, 2, 3, 20);
        Checks.refused("with sinks", Checks.STATE, () -> call.accept(x));
        x.build(1);
        call.accept(x);
        x.source(3, 3);
        Checks.refused("ended by the source", Checks.STATE, () -> call.accept(x));
        x.build(0);
        call.accept(x);
        x.cut(2);
        Checks.refused("ended by a cut", Checks.STATE, () -> call.accept(x));
        x.build(0);
        call.accept(x);
        x.sink(1, 1, 1, 1);
        Checks.refused("ended by a sink", Checks.STATE, () -> call.accept(x));
    }

    private static void newObject() {
        Document.says("No sinks, no tree.", PromisesTest::noSinksNoTree);
    }

    private static void noSinksNoTree() {
        EvenClock other = builtPair();
        EvenClock x = new EvenClock();
        Checks.due("sinks", x.sinks(), 0);
        Checks.noTree("new", x);
        Checks.refused("nothing to build", Checks.EMPTY, () -> x.build(0));
        Checks.due("the first sink", x.sink(1, 1, 1, 1), 0);
        Checks.due("another object's sinks", other.sinks(), 2);
        Checks.due("another object's tree", other.length(), 6144);
    }

    private static void sink() {
        Document.says("A new sink: its number.", PromisesTest::newSink);
        Document.says("IllegalArgumentException when x, y, load or need is not as said;", PromisesTest::sinkNotAsSaid);
        Document.says("UnsupportedOperationException when there are ten.", PromisesTest::tenSinks);
    }

    private static void newSink() {
        EvenClock x = new EvenClock();
        Checks.due("first", x.sink(3, 1, 7, 2), 0);
        Checks.due("second", x.sink(5, 9, 8, 1000), 1);
        Checks.due("the same again", x.sink(5, 9, 8, 1000), 2);
        Checks.due("three", x.sinks(), 3);
        x.cut(1);
        Checks.due("second after a cut", x.sink(4, 0, 6, 3), 1);
        x.source(3, 1);
        x.build(0);
        Checks.parts("x and y of the first", x, 0, -1, -1, 2, 4096, 4096, 2048, 2048);
        Checks.parts("x and y of the second", x, 1, -1, -1, 2, 4096, 4096, 4096, 4096);
        Checks.due("load of the first", x.load(0, false), 7168);
        Checks.due("load of the second", x.load(1, false), 6144);
        // Wires of 1024 to both and above the root, which bears 15360.
        Checks.due("need of the first, which is the worst", x.slack(),
                2 * 1048576 - (1024 * (1024 + 2 * 7168) + 1024 * (1024 + 2 * 15360)));
    }

    private static void sinkNotAsSaid() {
        EvenClock x = builtPair();
        Checks.refused("x under", Checks.ARGUMENT, () -> x.sink(-1, 0, 1, 0));
        Checks.refused("x over", Checks.ARGUMENT, () -> x.sink(201, 0, 1, 0));
        Checks.refused("y under", Checks.ARGUMENT, () -> x.sink(0, -1, 1, 0));
        Checks.refused("y over", Checks.ARGUMENT, () -> x.sink(0, 201, 1, 0));
        Checks.refused("load under", Checks.ARGUMENT, () -> x.sink(0, 0, 0, 0));
        Checks.refused("load over", Checks.ARGUMENT, () -> x.sink(0, 0, 101, 0));
        Checks.refused("need under", Checks.ARGUMENT, () -> x.sink(0, 0, 1, -1));
        Checks.refused("need over", Checks.ARGUMENT, () -> x.sink(0, 0, 1, 1000000001));
        Checks.due("no sink came of them", x.sinks(), 2);
        Checks.due("the tree stays", x.length(), 6144);
        Checks.due("least", x.sink(0, 0, 1, 0), 2);
        Checks.due("greatest", x.sink(200, 200, 100, 1000000000), 3);
    }

    private static void tenSinks() {
        EvenClock x = Checks.together(9);
        Checks.due("the tenth", x.sink(1, 1, 1, 1), 9);
        x.build(1);
        Checks.refused("the eleventh", Checks.FULL, () -> x.sink(1, 1, 1, 1));
        Checks.due("ten stay", x.sinks(), 10);
        Checks.due("the tree stays", x.node(18, Checks.PARENT), -1);
    }

    private static void cut() {
        Document.says("Only the first n sinks stay.", PromisesTest::firstStay);
        Document.says("IllegalArgumentException when n is negative, or there are not so many.",
                PromisesTest::cutNotSoMany);
    }

    private static void firstStay() {
        EvenClock x = Checks.at(0, 0, 2, 2, 9, 9, 7, 1);
        x.cut(4);
        Checks.due("all stay", x.sinks(), 4);
        x.cut(3);
        Checks.due("three stay", x.sinks(), 3);
        Checks.due("nodes", x.build(0), 5);
        Checks.due("u of the first", x.node(0, Checks.U), 0);
        Checks.due("u of the second", x.node(1, Checks.U), 4096);
        Checks.due("u of the third", x.node(2, Checks.U), 18432);
        x.cut(0);
        Checks.due("none stays", x.sinks(), 0);
        Checks.refused("nothing to build", Checks.EMPTY, () -> x.build(0));
    }

    private static void cutNotSoMany() {
        EvenClock x = builtPair();
        Checks.refused("negative", Checks.ARGUMENT, () -> x.cut(-1));
        Checks.refused("one more", Checks.ARGUMENT, () -> x.cut(3));
        Checks.due("both stay", x.sinks(), 2);
        Checks.due("the tree stays", x.length(), 6144);
        EvenClock none = new EvenClock();
        Checks.refused("one of none", Checks.ARGUMENT, () -> none.cut(1));
        none.cut(0);
    }

    private static void source() {
        Document.says("Where the source is.", PromisesTest::whereTheSourceIs);
        Document.says("IllegalArgumentException when x or y is not as said.", PromisesTest::sourceNotAsSaid);
    }

    private static void sourceAt(EvenClock x, int sourceX, int sourceY, int wire, int v) {
        x.source(sourceX, sourceY);
        x.build(0);
        Checks.due("wire from " + sourceX + ", " + sourceY, x.node(2, Checks.WIRE), wire);
        Checks.due("v of the root for " + sourceX + ", " + sourceY, x.node(2, Checks.V), v);
    }

    /** The root's region is u 2048, v -2048 .. 2048. */
    private static void whereTheSourceIs() {
        EvenClock x = pair();
        sourceAt(x, 2, 0, 0, 2048);
        sourceAt(x, 0, 3, 1024, -2048);
        sourceAt(x, 200, 0, 202752, 2048);
        sourceAt(x, 0, 200, 202752, -2048);
        sourceAt(x, 200, 200, 407552, 0);
        x.sink(9, 9, 1, 1);
        x.cut(2);
        x.build(1);
        Checks.due("it stays for later trees", x.node(2, Checks.WIRE), 407552);
    }

    private static void sourceNotAsSaid() {
        EvenClock x = builtPair();
        Checks.refused("x under", Checks.ARGUMENT, () -> x.source(-1, 0));
        Checks.refused("x over", Checks.ARGUMENT, () -> x.source(201, 0));
        Checks.refused("y under", Checks.ARGUMENT, () -> x.source(0, -1));
        Checks.refused("y over", Checks.ARGUMENT, () -> x.source(0, 201));
        Checks.due("the tree stays", x.node(2, Checks.WIRE), 2048);
        x.build(0);
        Checks.due("the source stays", x.node(2, Checks.WIRE), 2048);
    }

    private static void wires() {
        Document.says("Resistance and capacity of wires from now on.", PromisesTest::wiresFromNowOn);
        Document.says("IllegalArgumentException when one is not as said.", PromisesTest::wiresNotAsSaid);
    }

    private static void wiresFromNowOn() {
        EvenClock x = builtPair();
        x.set(2, true);
        x.wires(2, 3);
        Checks.due("the tree and its setting stay", x.setting(), 1);
        Checks.due("capacity", x.load(2, false), 1024 + 3072 + 2 * 6144);
        x.set(2, false);
        Checks.due("resistance", x.delay(0), 4096 * (6144 + 2048) + 4096 * (6144 + 32768));
        Checks.due("slack", x.slack(), 20 * 1048576 - (4096 * (6144 + 6144) + 4096 * (6144 + 32768)));
        x.sink(5, 5, 1, 1);
        x.build(1);
        x.cut(2);
        x.build(1);
        Checks.due("they stay for later trees", x.load(2, false), 16384);
        x.wires(1, 1);
        Checks.due("until others come", x.load(2, false), 8192);
    }

    private static void wiresNotAsSaid() {
        EvenClock x = builtPair();
        x.wires(2, 3);
        Checks.refused("r under", Checks.ARGUMENT, () -> x.wires(0, 1));
        Checks.refused("r over", Checks.ARGUMENT, () -> x.wires(21, 1));
        Checks.refused("c under", Checks.ARGUMENT, () -> x.wires(1, 0));
        Checks.refused("c over", Checks.ARGUMENT, () -> x.wires(1, 21));
        Checks.due("they are as before", x.delay(0), 192937984);
        x.wires(20, 20);
        Checks.due("greatest", x.load(2, false), 1024 + 3072 + 2 * 40960);
    }

    private static void buffer() {
        Document.says("The buffer from now on.", PromisesTest::bufferFromNowOn);
        Document.says("IllegalArgumentException when one is not as said.", PromisesTest::bufferNotAsSaid);
    }

    private static void bufferFromNowOn() {
        EvenClock x = builtPair();
        x.set(2, true);
        x.buffer(5, 3, 7);
        Checks.due("the tree and its setting stay", x.setting(), 1);
        Checks.due("input", x.load(2, true), 5120);
        Checks.due("drive and delay", x.delay(0), 8388608 + (7 + 6 * 8192) + 2048 * (2048 + 10240));
        Checks.due("slack", x.slack(), 10 * 1048576 - 33603591);
        x.source(1, 1);
        x.build(0);
        x.set(2, true);
        Checks.due("it stays for later trees", x.load(2, true), 5120);
        x.buffer(9, 3, 7);
        Checks.due("until another comes", x.load(2, true), 9216);
    }

    private static void bufferNotAsSaid() {
        EvenClock x = builtPair();
        x.set(2, true);
        x.buffer(5, 3, 7);
        Checks.refused("input under", Checks.ARGUMENT, () -> x.buffer(0, 1, 0));
        Checks.refused("input over", Checks.ARGUMENT, () -> x.buffer(1000001, 1, 0));
        Checks.refused("drive under", Checks.ARGUMENT, () -> x.buffer(1, 0, 0));
        Checks.refused("drive over", Checks.ARGUMENT, () -> x.buffer(1, 1001, 0));
        Checks.refused("delay under", Checks.ARGUMENT, () -> x.buffer(1, 1, -1));
        Checks.refused("delay over", Checks.ARGUMENT, () -> x.buffer(1, 1, 1000000001));
        Checks.due("it is as before", x.delay(0), 33603591);
        x.buffer(1000000, 1000, 1000000000);
        Checks.due("greatest", x.delay(0), 8388608 + (1000000000 + 2000 * 8192L) + 2048 * (2048 + 2048000000L));
    }

    private static void sinks() {
        Document.says("How many sinks there are.", PromisesTest::howManySinks);
    }

    private static void howManySinks() {
        EvenClock x = new EvenClock();
        for (int k = 0; k < 10; k++) {
            Checks.due("before the next", x.sinks(), k);
            x.sink(1, 1, 1, 1);
        }
        Checks.due("ten", x.sinks(), 10);
        x.build(0);
        Checks.due("with a tree", x.sinks(), 10);
        Checks.due("asking leaves the tree", x.setting(), 0);
        x.cut(4);
        Checks.due("after a cut", x.sinks(), 4);
    }

    private static void build() {
        Document.says("Builds the tree by a way: how many nodes it has.", PromisesTest::builds);
        Document.says("IllegalArgumentException when way is not 0 or 1;", PromisesTest::noSuchWay);
        Document.says("NoSuchElementException when there is no sink.", PromisesTest::noSink);
    }

    private static void builds() {
        EvenClock x = new EvenClock();
        for (int n = 1; n <= 10; n++) {
            x.sink(n * n, 7 * n % 10, 1, 1);
            Checks.due("nodes by way 0", x.build(0), 2 * n - 1);
            Checks.due("nodes by way 1", x.build(1), 2 * n - 1);
        }
        EvenClock y = Checks.at(0, 0, 9, 0, 10, 0);
        y.build(0);
        Checks.joins("way 0", y, 1, 2, 0, 3);
        y.set(3, true);
        y.build(1);
        Checks.joins("way 1", y, 0, 1, 3, 2);
        Checks.due("no buffer in the new tree", y.setting(), 0);
        y.build(0);
        Checks.joins("way 0 again", y, 1, 2, 0, 3);
    }

    private static void noSuchWay() {
        EvenClock x = builtPair();
        x.set(2, true);
        Checks.refused("under", Checks.ARGUMENT, () -> x.build(-1));
        Checks.refused("over", Checks.ARGUMENT, () -> x.build(2));
        Checks.due("the tree and its setting stay", x.setting(), 1);
        EvenClock y = pair();
        Checks.refused("no tree yet", Checks.ARGUMENT, () -> y.build(2));
        Checks.noTree("after it", y);
    }

    private static void noSink() {
        EvenClock x = new EvenClock();
        Checks.refused("by way 0", Checks.EMPTY, () -> x.build(0));
        Checks.refused("by way 1", Checks.EMPTY, () -> x.build(1));
        Checks.noTree("after it", x);
        x.sink(1, 1, 1, 1);
        Checks.due("one is enough", x.build(0), 1);
        x.cut(0);
        Checks.refused("none left", Checks.EMPTY, () -> x.build(1));
    }

    private static void node() {
        Document.says("Of a node: part 0 its left child, 1 its right one (-1 for sinks), 2 its parent (-1 for the "
                + "root), 3 U1, 4 U2, 5 V1, 6 V2, 7 its time, 8 the length of the wire above it, 9 the u of its place, "
                + "10 the v.", PromisesTest::partsOfNodes);
        Document.says(NO_TREE_OR, () -> needsTree(x -> x.node(2, 8)));
        Document.says("IndexOutOfBoundsException when there is no such node or part.", PromisesTest::noSuchNode);
    }

    private static void partsOfNodes() {
        EvenClock x = builtPair();
        Checks.parts("two", x, 0, -1, -1, 2, 0, 0, 0, 0, 0, 2048, 0, 0);
        Checks.parts("two", x, 1, -1, -1, 2, 4096, 4096, 0, 0, 0, 2048, 4096, 0);
        Checks.parts("two", x, 2, 0, 1, -1, 2048, 2048, -2048, 2048, 2048, 2048, 2048, 0);
        EvenClock one = Checks.at(3, 1);
        one.source(1, 5);
        one.build(0);
        Checks.parts("one", one, 0, -1, -1, -1, 4096, 4096, 2048, 2048, 0, 6144, 4096, 2048);
        // The root is at the place of u 8192, v 0 .. 8192 that is nearest to the source's v 6144.
        EvenClock four = Checks.at(0, 0, 2, 2, 10, 2, 12, 4);
        four.source(6, 0);
        four.build(1);
        Checks.parts("four", four, 4, 0, 1, 6, 2048, 2048, -2048, 2048, 2048, 6144, 2048, 2048);
        Checks.parts("four", four, 5, 2, 3, 6, 14336, 14336, 6144, 10240, 2048, 6144, 14336, 6144);
        Checks.parts("four", four, 6, 4, 5, -1, 8192, 8192, 0, 8192, 8192, 2048, 8192, 6144);
        // Node 3 is so late that the wire above 2 is longer than the way.
        EvenClock late = Checks.builtAt(1, 0, 0, 0, 8, 1, 4);
        Checks.parts("late", late, 3, 0, 1, 4, 4096, 4096, -4096, -4096, 4096, 0, 4096, -4096);
        Checks.parts("late", late, 2, -1, -1, 4, 5120, 5120, -3072, -3072, 0, 4096, 5120, -3072);
        Checks.parts("late", late, 4, 3, 2, -1, 4096, 4096, -4096, -4096, 4096, 4096, 4096, -4096);
    }

    private static void noSuchNode() {
        EvenClock x = builtPair();
        Checks.refused("node under", Checks.INDEX, () -> x.node(-1, 0));
        Checks.refused("node over", Checks.INDEX, () -> x.node(3, 0));
        Checks.refused("part under", Checks.INDEX, () -> x.node(0, -1));
        Checks.refused("part over", Checks.INDEX, () -> x.node(0, 11));
        Checks.refused("both", Checks.INDEX, () -> x.node(Checks.GREATEST, Checks.LEAST));
    }

    private static void length() {
        Document.says("The sum of the lengths of all wires.", PromisesTest::sumOfLengths);
        Document.says(NO_TREE, () -> needsTree(x -> x.length()));
    }

    private static void sumOfLengths() {
        Checks.due("two", builtPair().length(), 3 * 2048);
        Checks.due("one", Checks.builtAt(0, 3, 1).length(), 4096);
        Checks.due("none", Checks.builtAt(0, 0, 0, 0, 0).length(), 0);
        Checks.due("a wire that is longer than the way", Checks.builtAt(1, 0, 0, 0, 8, 1, 4).length(), 4 * 4096);
        EvenClock four = Checks.at(0, 0, 2, 2, 10, 2, 12, 4);
        four.source(6, 0);
        four.build(1);
        Checks.due("four", four.length(), 4 * 2048 + 2 * 6144 + 2048);
        four.wires(7, 9);
        four.improve();
        Checks.due("whatever the wires are and what is set", four.length(), 4 * 2048 + 2 * 6144 + 2048);
    }

    private static void depth() {
        Document.says("How many joins are above a sink.", PromisesTest::joinsAbove);
        Document.says(NO_TREE_OR, () -> needsTree(x -> x.depth(1)));
        Document.says("IndexOutOfBoundsException when there is no such sink.", PromisesTest::depthOfNoSink);
    }

    private static void depths(EvenClock x, int... due) {
        for (int k = 0; k < due.length; k++) {
            Checks.due("of " + k, x.depth(k), due[k]);
        }
    }

    private static void joinsAbove() {
        EvenClock x = Checks.at(0, 0, 1, 0, 3, 0, 7, 0, 15, 0);
        x.build(0);
        depths(x, 4, 4, 3, 2, 1);
        x.build(1);
        depths(x, 3, 3, 2, 2, 2);
        depths(builtPair(), 1, 1);
        depths(Checks.builtAt(0, 3, 1), 0);
    }

    private static void depthOfNoSink() {
        EvenClock x = builtPair();
        Checks.refused("under", Checks.INDEX, () -> x.depth(-1));
        Checks.refused("a join", Checks.INDEX, () -> x.depth(2));
        Checks.refused("over", Checks.INDEX, () -> x.depth(3));
    }

    private static void set() {
        Document.says("A buffer is set at a join, or taken away: whether that changed something.",
                PromisesTest::setOrTakenAway);
        Document.says(NO_TREE_OR, () -> needsTree(x -> x.set(2, true)));
        Document.says("IndexOutOfBoundsException when there is no such join.", PromisesTest::noSuchJoin);
    }

    private static void setOrTakenAway() {
        EvenClock x = Checks.builtAt(0, 0, 0, 2, 2, 10, 2);
        Checks.due("taken from none", x.set(3, false), false);
        Checks.due("set", x.set(3, true), true);
        Checks.due("3 shows a buffer", x.load(3, true), 1024);
        Checks.due("set again", x.set(3, true), false);
        Checks.due("3 still shows it", x.load(3, true), 1024);
        Checks.due("the other", x.set(4, true), true);
        Checks.due("both", x.setting(), 3);
        Checks.due("taken away", x.set(3, false), true);
        Checks.due("3 shows what it bears", x.load(3, true), 6144);
        Checks.due("taken away again", x.set(3, false), false);
        Checks.due("the other stays", x.setting(), 2);
    }

    private static void noSuchJoin() {
        EvenClock x = Checks.builtAt(0, 0, 0, 2, 2, 10, 2);
        x.set(4, true);
        for (boolean on : new boolean[] {true, false}) {
            Checks.refused("a sink", Checks.INDEX, () -> x.set(2, on));
            Checks.refused("under", Checks.INDEX, () -> x.set(-1, on));
            Checks.refused("over", Checks.INDEX, () -> x.set(5, on));
            Checks.refused("far over", Checks.INDEX, () -> x.set(36, on));
        }
        Checks.due("the setting is as before", x.setting(), 2);
        EvenClock one = Checks.builtAt(0, 3, 1);
        Checks.refused("one sink has none", Checks.INDEX, () -> one.set(0, true));
        Checks.refused("nor a second", Checks.INDEX, () -> one.set(1, true));
    }

    private static void setting() {
        Document.says("The number of the present setting.", PromisesTest::presentSetting);
        Document.says(NO_TREE, () -> needsTree(x -> x.setting()));
    }

    private static void presentSetting() {
        EvenClock x = Checks.together(10);
        x.build(1);
        Checks.due("none", x.setting(), 0);
        for (int join = 10; join < 19; join++) {
            x.set(join, true);
            Checks.due("up to " + join, x.setting(), (1 << (join - 9)) - 1);
        }
        x.set(10, false);
        Checks.due("all but one", x.setting(), 510);
        x.build(0);
        Checks.due("none in a new tree", x.setting(), 0);
        EvenClock y = builtPair();
        y.improve();
        Checks.due("the improved one", y.setting(), 1);
        Checks.due("one sink", Checks.builtAt(0, 3, 1).setting(), 0);
    }

    private static void load() {
        Document.says("What a node bears, or shows.", PromisesTest::bearsOrShows);
        Document.says(NO_TREE_OR, () -> needsTree(x -> x.load(2, false)));
        Document.says("IndexOutOfBoundsException when there is no such node.", PromisesTest::loadOfNoNode);
    }

    private static void bearsOrShows() {
        EvenClock x = builtPair();
        Checks.due("a sink bears", x.load(1, false), 3072);
        Checks.due("a sink shows", x.load(1, true), 3072);
        Checks.due("a join bears", x.load(2, false), 8192);
        Checks.due("a join shows", x.load(2, true), 8192);
        x.buffer(100, 1, 0);
        x.set(2, true);
        Checks.due("with a buffer it bears", x.load(2, false), 8192);
        Checks.due("with a buffer it shows", x.load(2, true), 102400);
        EvenClock three = Checks.builtAt(0, 0, 0, 2, 2, 10, 2);
        three.buffer(100, 1, 0);
        // 2048 above 0 and 1; join 3 is at u 2048, v to 2048; sink 2 is 10240 from there: 4096 and 6144.
        Checks.due("of three", three.load(4, false), 6144 + 4096 + 1024 + 6144);
        three.set(3, true);
        Checks.due("a buffer below", three.load(4, false), 102400 + 4096 + 1024 + 6144);
        Checks.due("shown above as borne", three.load(4, true), 102400 + 4096 + 1024 + 6144);
    }

    private static void loadOfNoNode() {
        EvenClock x = builtPair();
        for (boolean shown : new boolean[] {true, false}) {
            Checks.refused("under", Checks.INDEX, () -> x.load(-1, shown));
            Checks.refused("over", Checks.INDEX, () -> x.load(3, shown));
        }
    }

    private static void delay() {
        Document.says("The delay of a sink.", PromisesTest::delays);
        Document.says(NO_TREE_OR, () -> needsTree(x -> x.delay(1)));
        Document.says("IndexOutOfBoundsException when there is no such sink.", PromisesTest::delayOfNoSink);
    }

    private static void delays() {
        EvenClock x = builtPair();
        Checks.due("first", x.delay(0), 2048 * (2048 + 2048) + 2048 * (2048 + 16384));
        Checks.due("second", x.delay(1), 2048 * (2048 + 6144) + 2048 * (2048 + 16384));
        x.set(2, true);
        Checks.due("first with a buffer", x.delay(0), 2048 * (2048 + 2048) + 16384 + 2048 * (2048 + 2048));
        Checks.due("second with a buffer", x.delay(1), 2048 * (2048 + 6144) + 16384 + 2048 * (2048 + 2048));
        Checks.due("one sink", Checks.builtAt(1, 3, 1).delay(0), 4096 * (4096 + 2048));
        EvenClock same = Checks.together(2);
        same.build(0);
        Checks.due("no wire", same.delay(1), 0);
        same.buffer(1, 2, 3);
        same.set(2, true);
        Checks.due("a buffer alone", same.delay(1), 3 + 4 * 2048);
    }

    private static void delayOfNoSink() {
        EvenClock x = builtPair();
        Checks.refused("under", Checks.INDEX, () -> x.delay(-1));
        Checks.refused("a join", Checks.INDEX, () -> x.delay(2));
        Checks.refused("over", Checks.INDEX, () -> x.delay(3));
    }

    private static void slack() {
        Document.says("The slack of the tree.", PromisesTest::slacks);
        Document.says(NO_TREE, () -> needsTree(x -> x.slack()));
    }

    private static void slacks() {
        EvenClock x = builtPair();
        Checks.due("none set", x.slack(), 10 * 1048576 - 46137344);
        x.set(2, true);
        Checks.due("set", x.slack(), 10 * 1048576 - 16793600);
        x.set(2, false);
        Checks.due("taken away", x.slack(), 10 * 1048576 - 46137344);
        EvenClock same = new EvenClock();
        same.sink(0, 0, 1, 1000000000);
        same.build(0);
        Checks.due("the need alone", same.slack(), 1048576000000000L);
        same.sink(0, 0, 1, 7);
        same.build(0);
        Checks.due("the least one", same.slack(), 7340032);
    }

    private static void best() {
        Document.says("The slack of the tree with the BEST setting.", PromisesTest::bestSlack);
        Document.says(NO_TREE, () -> needsTree(x -> x.best()));
    }

    private static void bestSlack() {
        EvenClock x = builtPair();
        Checks.due("with the buffer", x.best(), -6307840);
        Checks.due("it sets none", x.setting(), 0);
        Checks.due("nor is slack changed", x.slack(), -35651584);
        x.set(2, true);
        x.buffer(1000000, 1, 0);
        Checks.due("without it", x.best(), -35651584);
        Checks.due("it takes none away", x.setting(), 1);
        x.buffer(1, 1, 0);
        Checks.due("with the present buffer", x.best(), -6307840);
        x.wires(2, 3);
        Checks.due("with the present wires", x.best(), 20971520 - (4096 * 12288 + 4096 * 8192 + 2 * 16384));
        Checks.due("one sink", Checks.builtAt(1, 3, 1).best(), -4096 * (4096 + 2048));
    }

    private static void improve() {
        Document.says("The present setting becomes the BEST one: its number.", PromisesTest::improved);
        Document.says(NO_TREE, () -> needsTree(x -> x.improve()));
    }

    private static void improved() {
        EvenClock x = builtPair();
        Checks.due("set", x.improve(), 1);
        Checks.due("it is the present one", x.setting(), 1);
        Checks.due("its slack", x.slack(), -6307840);
        Checks.due("again", x.improve(), 1);
        x.buffer(1000000, 1, 0);
        Checks.due("taken away", x.improve(), 0);
        Checks.due("it is the present one, too", x.setting(), 0);
        Checks.due("its slack then", x.slack(), -35651584);
        Checks.due("one sink", Checks.builtAt(1, 3, 1).improve(), 0);
    }

    private static void notPromised() {
        Document.saysOnly("How the state is held inside the object is free, as are the speed of each call, the text of "
                + "toString and the behaviour of equals and hashCode.");
        Document.saysOnly("Use of one object from several threads at once is not promised to be safe.");
        Document.saysOnly("Nothing is promised beyond the answers and state changes described above, and nothing about "
                + "an object after its 512th call.");
    }
}
