import java.util.ArrayList;
import java.util.List;
import java.util.function.Consumer;
import java.util.function.Supplier;

/**
 * What an object is before there is a tree, with one and after it has ended; which calls end it and which do
 * not; what a call that throws leaves; which exception it is of several; and how many calls an object serves.
 */
public final class LifeTest {
    public static void main(String[] args) {
        ofNewObjects();
        ofEnding();
        ofStaying();
        ofRefusedCalls();
        ofFirstNamed();
        ofManyCalls();
        Checks.finish();
    }

    private static final String[] STATES = {"new", "no sink", "sinks", "one sink built", "two built", "ended by a sink",
        "ended by a cut", "ended by the source", "ten", "ten built", "ten improved"};

    /** The states that an object can be in, each made anew by its number. */
    private static EvenClock inState(int state) {
        switch (state) {
            case 0: return new EvenClock();
            case 1: return given(0);
            case 2: return given(3);
            case 3: return builtOf(1, 0);
            case 4: return builtOf(2, 1);
            case 5: return endedBy(x -> x.sink(8, 9, 10, 11));
            case 6: return endedBy(x -> x.cut(2));
            case 7: return endedBy(x -> x.source(60, 5));
            case 8: return given(10);
            case 9: return builtOf(10, 0);
            default: return improvedTen();
        }
    }

    private static EvenClock given(int n) {
        EvenClock x = new EvenClock();
        x.source(40, 70);
        x.wires(2, 3);
        x.buffer(5, 6, 7);
        for (int k = 0; k < n; k++) {
            x.sink(37 * k % 101, 53 * k % 97, 1 + 11 * k, 1000 + 100 * k);
        }
        return x;
    }

    /** With a buffer at the last join, if there is one. */
    private static EvenClock builtOf(int n, int way) {
        EvenClock x = given(n);
        x.build(way);
        if (n > 1) {
            x.set(2 * n - 2, true);
        }
        return x;
    }

    private static EvenClock endedBy(Consumer<EvenClock> end) {
        EvenClock x = builtOf(3, 0);
        end.accept(x);
        return x;
    }

    private static EvenClock improvedTen() {
        EvenClock x = builtOf(10, 1);
        x.improve();
        return x;
    }

    private static boolean isBuilt(int state) {
        return state == 3 || state == 4 || state >= 9;
    }

    private static boolean isFull(int state) {
        return state >= 8;
    }

    private static boolean isEmpty(int state) {
        return state < 2;
    }

    private static void ofNewObjects() {
        Checks.sentence("1: no sinks", () -> Checks.due("sinks", new EvenClock().sinks(), 0));
        Checks.sentence("1: no tree", () -> Checks.noTree("new", new EvenClock()));
        Checks.sentence("1: each object has its own", LifeTest::objectsApart);
        for (Wrong call : rightOnesWithoutTree()) {
            Checks.sentence(call.name + ": IllegalStateException when there is no tree", () -> needsTree(call));
        }
        Checks.sentence("9 to 18: the same with numbers that are nowhere", LifeTest::noTreeInAnyState);
        Checks.sentence("7: sinks: how many there are, in any state", LifeTest::sinksInAnyState);
    }

    private static void objectsApart() {
        String due = Checks.story(new EvenClock());
        EvenClock x = new EvenClock();
        EvenClock other = inState(9);
        Checks.noTree("beside a built one", x);
        Checks.same("beside a built one", Checks.story(x), due);
        Checks.same("the built one", Checks.answers(other), Checks.answers(inState(9)));
    }

    private static void needsTree(Wrong call) {
        for (int state = 0; state < STATES.length; state++) {
            EvenClock x = inState(state);
            if (isBuilt(state)) {
                call.call.accept(x);
            } else {
                Checks.refused(STATES[state], call.due, () -> call.call.accept(x));
            }
        }
    }

    private static void noTreeInAnyState() {
        for (int state = 0; state < STATES.length; state++) {
            if (isBuilt(state)) {
                Checks.due(STATES[state], Checks.hasTree(inState(state)), true);
            } else {
                Checks.noTree(STATES[state], inState(state));
            }
        }
    }

    private static void sinksInAnyState() {
        int[] due = {0, 0, 3, 1, 2, 4, 2, 3, 10, 10, 10};
        for (int state = 0; state < STATES.length; state++) {
            Checks.due(STATES[state], inState(state).sinks(), due[state]);
        }
    }

    private static void ofEnding() {
        Checks.sentence("Terms: sink ends the tree", () -> ends(x -> x.sink(0, 0, 1, 0)));
        Checks.sentence("Terms: cut ends the tree: to none", () -> ends(x -> x.cut(0)));
        Checks.sentence("Terms: cut ends the tree: to one less", () -> ends(x -> x.cut(x.sinks() - 1)));
        Checks.sentence("Terms: cut ends the tree: to as many as there are", () -> ends(x -> x.cut(x.sinks())));
        Checks.sentence("Terms: source ends the tree: another place", () -> ends(x -> x.source(1, 2)));
        Checks.sentence("Terms: source ends the tree: the same place", () -> ends(x -> x.source(40, 70)));
        Checks.sentence("Terms: cut and source without a tree", LifeTest::endsNothing);
        Checks.sentence("8: build after the tree was ended", LifeTest::builtAfterEnd);
    }

    private static void ends(Consumer<EvenClock> end) {
        for (int n = 1; n < 10; n++) {
            EvenClock x = builtOf(n, n % 2);
            end.accept(x);
            Checks.noTree("tree of " + n, x);
        }
    }

    private static void endsNothing() {
        EvenClock x = given(3);
        x.source(1, 1);
        x.cut(3);
        x.cut(2);
        Checks.noTree("never built", x);
        Checks.due("sinks", x.sinks(), 2);
        Checks.due("nodes", x.build(0), 3);
        x.source(1, 1);
        x.source(2, 2);
        x.cut(2);
        Checks.noTree("ended three times", x);
    }

    private static void builtAfterEnd() {
        EvenClock x = builtOf(3, 0);
        x.source(40, 70);
        Checks.due("nodes", x.build(0), 5);
        Checks.due("no buffer is left", x.setting(), 0);
        x.set(4, true);
        Checks.same("all else is as before", Checks.story(x), Checks.story(builtOf(3, 0)));
        EvenClock grown = builtOf(2, 1);
        grown.sink(74, 9, 23, 1200);
        grown.build(1);
        grown.set(4, true);
        Checks.same("with one more", Checks.story(grown), Checks.story(builtOf(3, 1)));
        EvenClock shrunk = builtOf(10, 1);
        shrunk.cut(3);
        shrunk.build(1);
        shrunk.set(4, true);
        Checks.same("with seven less", Checks.story(shrunk), Checks.story(builtOf(3, 1)));
    }

    private static void ofStaying() {
        Checks.sentence("5: wires: from now on, and the tree stays", LifeTest::wiresStay);
        Checks.sentence("6: buffer: from now on, and the tree stays", LifeTest::bufferStays);
        Checks.sentence("Terms: asking ends no tree", LifeTest::askingStays);
        Checks.sentence("8: build where there is a tree", LifeTest::builtAgain);
        Checks.sentence("5, 6: wires and buffer outlast sinks and trees", LifeTest::outlast);
    }

    /** Two wires of 2048 and two loads of 1024 are below the join, a wire of 2048 is above it. */
    private static void wiresStay() {
        EvenClock x = Checks.builtAt(0, 0, 0, 2, 2);
        x.set(2, true);
        Checks.due("at first", x.load(2, false), 2048 + 4096);
        x.wires(1, 3);
        Checks.due("setting", x.setting(), 1);
        Checks.due("capacity at once", x.load(2, false), 2048 + 3 * 4096);
        x.set(2, false);
        x.wires(2, 1);
        Checks.due("resistance at once", x.delay(0), 4096 * (2048 + 2048) + 4096 * (2048 + 2 * 6144));
        EvenClock y = builtOf(3, 0);
        y.wires(20, 20);
        y.wires(2, 3);
        Checks.same("and back again", Checks.story(y), Checks.story(builtOf(3, 0)));
    }

    private static void bufferStays() {
        EvenClock x = builtOf(3, 0);
        x.buffer(9, 6, 7);
        Checks.due("setting", x.setting(), 2);
        Checks.due("shown at once", x.load(4, true), 9216);
        x.buffer(5, 6, 7);
        Checks.same("and back again", Checks.story(x), Checks.story(builtOf(3, 0)));
    }

    private static void askingStays() {
        for (int state = 0; state < STATES.length; state++) {
            EvenClock asked = inState(state);
            askAll(asked);
            Checks.same(STATES[state], Checks.story(asked), Checks.story(inState(state)));
        }
    }

    private static void askAll(EvenClock x) {
        x.sinks();
        if (Checks.hasTree(x)) {
            x.node(0, 8);
            x.length();
            x.depth(0);
            x.setting();
            x.load(0, true);
            x.delay(0);
            x.slack();
            x.best();
        }
    }

    private static void builtAgain() {
        EvenClock x = builtOf(10, 0);
        Checks.due("by the other way", x.build(1), 19);
        Checks.due("without buffers", x.setting(), 0);
        x.set(18, true);
        Checks.same("as if it were the first", Checks.story(x), Checks.story(builtOf(10, 1)));
        EvenClock back = builtOf(10, 0);
        back.build(1);
        back.build(0);
        back.set(18, true);
        Checks.same("and back again", Checks.story(back), Checks.story(builtOf(10, 0)));
        EvenClock turned = Checks.builtAt(1, 9, 9, 8, 8, 1, 1, 0, 0);
        turned.build(1);
        Checks.joins("by way 1 twice, where it puts the last sink first", turned, 3, 2, 1, 0, 4, 5);
    }

    private static void outlast() {
        EvenClock x = builtOf(10, 0);
        x.cut(0);
        Checks.same("after all sinks are gone", Checks.story(x), Checks.story(given(0)));
        EvenClock y = builtOf(10, 0);
        y.source(0, 0);
        y.source(40, 70);
        y.build(0);
        y.set(18, true);
        Checks.same("after the tree is gone", Checks.story(y), Checks.story(builtOf(10, 0)));
    }

    /** A call that is to be refused, with its exception. */
    private static final class Wrong {
        final String name;
        final Class<? extends RuntimeException> due;
        final Consumer<EvenClock> call;

        Wrong(String name, Class<? extends RuntimeException> due, Consumer<EvenClock> call) {
            this.name = name;
            this.due = due;
            this.call = call;
        }
    }

    /** These are refused in every state; all numbers but one are right, and not those that are there. */
    private static List<Wrong> wrongArguments() {
        List<Wrong> all = new ArrayList<>();
        all.add(new Wrong("sink, x", Checks.ARGUMENT, x -> x.sink(-1, 9, 9, 9)));
        all.add(new Wrong("sink, x over", Checks.ARGUMENT, x -> x.sink(201, 9, 9, 9)));
        all.add(new Wrong("sink, y", Checks.ARGUMENT, x -> x.sink(9, -1, 9, 9)));
        all.add(new Wrong("sink, y over", Checks.ARGUMENT, x -> x.sink(9, 201, 9, 9)));
        all.add(new Wrong("sink, load", Checks.ARGUMENT, x -> x.sink(9, 9, 0, 9)));
        all.add(new Wrong("sink, load over", Checks.ARGUMENT, x -> x.sink(9, 9, 101, 9)));
        all.add(new Wrong("sink, need", Checks.ARGUMENT, x -> x.sink(9, 9, 9, -1)));
        all.add(new Wrong("sink, need over", Checks.ARGUMENT, x -> x.sink(9, 9, 9, 1000000001)));
        all.add(new Wrong("cut, negative", Checks.ARGUMENT, x -> x.cut(-1)));
        all.add(new Wrong("cut, one more", Checks.ARGUMENT, x -> x.cut(x.sinks() + 1)));
        all.add(new Wrong("source, x", Checks.ARGUMENT, x -> x.source(-1, 9)));
        all.add(new Wrong("source, x over", Checks.ARGUMENT, x -> x.source(201, 9)));
        all.add(new Wrong("source, y", Checks.ARGUMENT, x -> x.source(9, -1)));
        all.add(new Wrong("source, y over", Checks.ARGUMENT, x -> x.source(9, 201)));
        all.add(new Wrong("wires, r", Checks.ARGUMENT, x -> x.wires(0, 9)));
        all.add(new Wrong("wires, r over", Checks.ARGUMENT, x -> x.wires(21, 9)));
        all.add(new Wrong("wires, c", Checks.ARGUMENT, x -> x.wires(9, 0)));
        all.add(new Wrong("wires, c over", Checks.ARGUMENT, x -> x.wires(9, 21)));
        all.add(new Wrong("buffer, input", Checks.ARGUMENT, x -> x.buffer(0, 9, 9)));
        all.add(new Wrong("buffer, input over", Checks.ARGUMENT, x -> x.buffer(1000001, 9, 9)));
        all.add(new Wrong("buffer, drive", Checks.ARGUMENT, x -> x.buffer(9, 0, 9)));
        all.add(new Wrong("buffer, drive over", Checks.ARGUMENT, x -> x.buffer(9, 1001, 9)));
        all.add(new Wrong("buffer, delay", Checks.ARGUMENT, x -> x.buffer(9, 9, -1)));
        all.add(new Wrong("buffer, delay over", Checks.ARGUMENT, x -> x.buffer(9, 9, 1000000001)));
        all.add(new Wrong("build, way", Checks.ARGUMENT, x -> x.build(-1)));
        all.add(new Wrong("build, way over", Checks.ARGUMENT, x -> x.build(2)));
        return all;
    }

    private static List<Wrong> wrongIndices(Class<? extends RuntimeException> due) {
        List<Wrong> all = new ArrayList<>();
        all.add(new Wrong("node", due, x -> x.node(-1, 0)));
        all.add(new Wrong("node over", due, x -> x.node(19, 0)));
        all.add(new Wrong("part", due, x -> x.node(0, -1)));
        all.add(new Wrong("part over", due, x -> x.node(0, 11)));
        all.add(new Wrong("depth", due, x -> x.depth(-1)));
        all.add(new Wrong("depth over", due, x -> x.depth(10)));
        all.add(new Wrong("set", due, x -> x.set(0, true)));
        all.add(new Wrong("set over", due, x -> x.set(19, true)));
        all.add(new Wrong("set far over", due, x -> x.set(x.sinks() + 32, true)));
        all.add(new Wrong("taken away", due, x -> x.set(0, false)));
        all.add(new Wrong("taken away over", due, x -> x.set(19, false)));
        all.add(new Wrong("taken away far over", due, x -> x.set(x.sinks() * 2 + 30, false)));
        all.add(new Wrong("load", due, x -> x.load(-1, false)));
        all.add(new Wrong("load over", due, x -> x.load(19, true)));
        all.add(new Wrong("delay", due, x -> x.delay(-1)));
        all.add(new Wrong("delay over", due, x -> x.delay(10)));
        return all;
    }

    /** Calls that need a tree and are right in every one (one sink has no join to set a buffer at). */
    private static List<Wrong> rightOnesWithoutTree() {
        List<Wrong> all = new ArrayList<>();
        all.add(new Wrong("9: node", Checks.STATE, x -> x.node(0, 0)));
        all.add(new Wrong("10: length", Checks.STATE, x -> x.length()));
        all.add(new Wrong("11: depth", Checks.STATE, x -> x.depth(0)));
        all.add(new Wrong("12: set", Checks.STATE, x -> setLast(x, true)));
        all.add(new Wrong("12: set, taken away", Checks.STATE, x -> setLast(x, false)));
        all.add(new Wrong("13: setting", Checks.STATE, x -> x.setting()));
        all.add(new Wrong("14: load", Checks.STATE, x -> x.load(0, false)));
        all.add(new Wrong("14: load, shown", Checks.STATE, x -> x.load(0, true)));
        all.add(new Wrong("15: delay", Checks.STATE, x -> x.delay(0)));
        all.add(new Wrong("16: slack", Checks.STATE, x -> x.slack()));
        all.add(new Wrong("17: best", Checks.STATE, x -> x.best()));
        all.add(new Wrong("18: improve", Checks.STATE, x -> x.improve()));
        return all;
    }

    private static void setLast(EvenClock x, boolean on) {
        int n = x.sinks();
        if (n == 1) {
            x.setting();
        } else {
            x.set(Math.max(2, 2 * n - 2), on);
        }
    }

    private static List<Wrong> refusedIn(int state) {
        List<Wrong> all = wrongArguments();
        if (isEmpty(state)) {
            all.add(new Wrong("build of none", Checks.EMPTY, x -> x.build(0)));
            all.add(new Wrong("build of none by way 1", Checks.EMPTY, x -> x.build(1)));
        }
        if (isFull(state)) {
            all.add(new Wrong("an eleventh sink", Checks.FULL, x -> x.sink(9, 9, 9, 9)));
        }
        all.addAll(wrongIndices(isBuilt(state) ? Checks.INDEX : Checks.STATE));
        if (!isBuilt(state)) {
            all.addAll(rightOnesWithoutTree());
        }
        return all;
    }

    private static void ofRefusedCalls() {
        for (int state = 0; state < STATES.length; state++) {
            int here = state;
            Checks.sentence("Terms: a call that throws changes nothing: " + STATES[state],
                    () -> changeNothing(() -> inState(here), refusedIn(here)));
        }
        Checks.sentence("Terms: many calls that throw change nothing", LifeTest::manyRefused);
    }

    private static void changeNothing(Supplier<EvenClock> state, List<Wrong> calls) {
        String due = Checks.story(state.get());
        for (Wrong wrong : calls) {
            EvenClock x = state.get();
            Checks.refused(wrong.name, wrong.due, () -> wrong.call.accept(x));
            Checks.same("after " + wrong.name, Checks.story(x), due);
        }
    }

    private static void manyRefused() {
        for (int state = 0; state < STATES.length; state++) {
            EvenClock x = inState(state);
            for (Wrong wrong : refusedIn(state)) {
                Checks.refused(STATES[state] + ": " + wrong.name, wrong.due, () -> wrong.call.accept(x));
            }
            Checks.same(STATES[state], Checks.story(x), Checks.story(inState(state)));
        }
    }

    private static void ofFirstNamed() {
        Checks.sentence("Terms: the first named: sink with wrong numbers when there are ten", LifeTest::firstOfSink);
        Checks.sentence("Terms: the first named: build by no way without a sink", LifeTest::firstOfBuild);
        Checks.sentence("Terms: the first named: no such node, and no tree", LifeTest::firstOfTree);
    }

    private static void firstOfSink() {
        for (int state = 8; state < STATES.length; state++) {
            EvenClock x = inState(state);
            Checks.refused("x", Checks.ARGUMENT, () -> x.sink(201, 0, 1, 0));
            Checks.refused("y", Checks.ARGUMENT, () -> x.sink(0, -1, 1, 0));
            Checks.refused("load", Checks.ARGUMENT, () -> x.sink(0, 0, 0, 0));
            Checks.refused("need", Checks.ARGUMENT, () -> x.sink(0, 0, 1, 1000000001));
            Checks.refused("none is wrong", Checks.FULL, () -> x.sink(0, 0, 1, 0));
        }
    }

    private static void firstOfBuild() {
        for (int state = 0; state < 2; state++) {
            EvenClock x = inState(state);
            Checks.refused("-1", Checks.ARGUMENT, () -> x.build(-1));
            Checks.refused("2", Checks.ARGUMENT, () -> x.build(2));
            Checks.refused("0", Checks.EMPTY, () -> x.build(0));
            Checks.refused("1", Checks.EMPTY, () -> x.build(1));
        }
    }

    private static void firstOfTree() {
        for (int state = 0; state < STATES.length; state++) {
            for (Wrong wrong : wrongIndices(isBuilt(state) ? Checks.INDEX : Checks.STATE)) {
                EvenClock x = inState(state);
                Checks.refused(STATES[state] + ": " + wrong.name, wrong.due, () -> wrong.call.accept(x));
            }
        }
    }

    private static void ofManyCalls() {
        Checks.sentence("What it is: 512 calls: sinks come and go", LifeTest::manySinks);
        Checks.sentence("What it is: 512 calls: trees come and go", LifeTest::manyTrees);
        Checks.sentence("What it is: 512 calls: all refused", LifeTest::manyWrong);
        Checks.sentence("What it is: 512 calls: the last one, of each kind", LifeTest::lastCall);
    }

    private static void manySinks() {
        EvenClock x = new EvenClock();
        for (int round = 0; round < 45; round++) {
            for (int k = 0; k < 10; k++) {
                Checks.due("number", x.sink(k, round, 1, 0), k);
            }
            x.cut(0);
        }
        for (int k = 0; k < 10; k++) {
            x.sink(37 * k % 101, 53 * k % 97, 1 + 11 * k, 1000 + 100 * k);
        }
        x.build(1);
        Checks.due("length", x.length(), sameTen().length());
        Checks.due("slack", x.slack(), sameTen().slack());
        Checks.due("best", x.best(), sameTen().best());
    }

    private static EvenClock sameTen() {
        EvenClock x = new EvenClock();
        for (int k = 0; k < 10; k++) {
            x.sink(37 * k % 101, 53 * k % 97, 1 + 11 * k, 1000 + 100 * k);
        }
        x.build(1);
        return x;
    }

    private static void manyTrees() {
        EvenClock x = given(10);
        long due = builtOf(10, 1).best();
        for (int round = 0; round < 82; round++) {
            Checks.due("nodes", x.build(round % 2), 19);
            Checks.due("set", x.set(10 + round % 9, true), true);
            x.improve();
            x.best();
            x.source(round, round);
            x.source(40, 70);
        }
        x.build(1);
        Checks.due("best", x.best(), due);
        Checks.due("setting", x.setting(), 0);
    }

    private static void manyWrong() {
        EvenClock x = builtOf(10, 0);
        for (int i = 0; i < 74; i++) {
            Checks.refused("sink", Checks.FULL, () -> x.sink(1, 1, 1, 1));
            Checks.refused("cut", Checks.ARGUMENT, () -> x.cut(11));
            Checks.refused("node", Checks.INDEX, () -> x.node(19, 0));
        }
        Checks.same("all", Checks.answers(x), Checks.answers(builtOf(10, 0)));
    }

    /** Brings an object of ten sinks, built by way 0, that has had 15 calls, to 511 and back to the same state. */
    private static EvenClock nearlyUsed() {
        EvenClock x = builtOf(10, 0);
        for (int round = 0; round < 124; round++) {
            x.set(10, true);
            x.slack();
            x.set(10, false);
            x.setting();
        }
        return x;
    }

    private interface Asked {
        long answer(EvenClock x);
    }

    private static void lastIs(String what, Asked call) {
        Checks.due(what, call.answer(nearlyUsed()), call.answer(builtOf(10, 0)));
    }

    private static void lastCall() {
        lastIs("sinks", x -> x.sinks());
        lastIs("build", x -> x.build(1));
        lastIs("node", x -> x.node(18, Checks.WIRE));
        lastIs("length", x -> x.length());
        lastIs("depth", x -> x.depth(9));
        lastIs("set", x -> x.set(17, true) ? 1 : 0);
        lastIs("setting", x -> x.setting());
        lastIs("load", x -> x.load(18, false));
        lastIs("delay", x -> x.delay(9));
        lastIs("slack", x -> x.slack());
        lastIs("best", x -> x.best());
        lastIs("improve", x -> x.improve());
        nearlyUsed().cut(10);
        nearlyUsed().source(0, 0);
        nearlyUsed().wires(1, 1);
        nearlyUsed().buffer(1, 1, 0);
        Checks.refused("sink", Checks.FULL, () -> nearlyUsed().sink(0, 0, 1, 0));
        Checks.refused("cut that is refused", Checks.ARGUMENT, () -> nearlyUsed().cut(11));
        Checks.refused("node that is refused", Checks.INDEX, () -> nearlyUsed().node(19, 0));
    }
}
