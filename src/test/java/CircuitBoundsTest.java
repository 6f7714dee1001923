import java.math.BigInteger;

/**
 * For each sentence about wires, buffers, slacks and settings that names a boundary case, a test of its own:
 * no wire, no join, no buffer and all of them, several that are alike, the greatest numbers.
 */
public final class CircuitBoundsTest {
    private static final int MOST = 1000000000;

    public static void main(String[] args) {
        ofLoads();
        ofDelays();
        ofSlacks();
        ofSettings();
        ofBest();
        Checks.sentence("Terms: all numbers stay within a long", CircuitBoundsTest::withinALong);
        Checks.finish();
    }

    /**
     * Sinks at 0, 1 and 3 of a line, the source at 0. Wires: 512 above sinks 0 and 1, 1536 above sink 2, 1024
     * above join 3, 1536 above join 4, the root.
     */
    private static EvenClock line() {
        return Checks.builtAt(0, 0, 0, 1, 0, 3, 0);
    }

    private static void ofLoads() {
        Checks.sentence("Terms: a wire of length 0 has no capacity", CircuitBoundsTest::noCapacity);
        Checks.sentence("Bears: a sink 1024 times its load", CircuitBoundsTest::sinkBears);
        Checks.sentence("Bears: a join the sum over its two children", CircuitBoundsTest::joinBears);
        Checks.sentence("Shows: a join with a buffer 1024 times its input", CircuitBoundsTest::bufferShows);
        Checks.sentence("Shows: any other node what it bears", CircuitBoundsTest::othersShow);
    }

    private static void noCapacity() {
        EvenClock x = Checks.together(10);
        x.wires(20, 20);
        x.build(0);
        Checks.due("ten loads alone", x.load(18, false), 10240);
        // The wire above a sink that is late is longer than it is far; that of the other has no length.
        EvenClock late = Checks.builtAt(1, 0, 0, 0, 8, 1, 4);
        late.wires(1, 20);
        Checks.due("no wire above 3", late.node(3, Checks.WIRE), 0);
        Checks.due("what 3 shows, and 2 with a wire of 4096", late.load(4, false),
                (2048 + 2 * 20 * 4096) + (1024 + 20 * 4096));
    }

    private static void sinkBears() {
        EvenClock x = new EvenClock();
        x.sink(0, 0, 1, 0);
        x.sink(0, 0, 100, 0);
        x.sink(9, 0, 37, 0);
        x.wires(20, 20);
        x.build(0);
        Checks.due("least", x.load(0, false), 1024);
        Checks.due("greatest", x.load(1, false), 102400);
        Checks.due("with a wire above it", x.load(2, false), 37888);
    }

    private static void joinBears() {
        EvenClock x = line();
        Checks.due("3", x.load(3, false), 2 * (1024 + 512));
        Checks.due("4", x.load(4, false), (1024 + 1536) + (3072 + 1024));
        x.wires(20, 1);
        Checks.due("resistance is none of it", x.load(4, false), 6656);
        x.wires(1, 20);
        Checks.due("3, capacity 20", x.load(3, false), 2 * (1024 + 10240));
        Checks.due("4, capacity 20", x.load(4, false), (1024 + 30720) + (22528 + 20480));
    }

    private static void bufferShows() {
        EvenClock x = line();
        x.set(3, true);
        Checks.due("3 shows", x.load(3, true), 1024);
        Checks.due("3 bears as before", x.load(3, false), 3072);
        Checks.due("4 bears what 3 shows", x.load(4, false), (1024 + 1536) + (1024 + 1024));
        x.buffer(1000000, 1, 0);
        Checks.due("3 shows the greatest", x.load(3, true), 1024000000);
        Checks.due("4 bears the greatest", x.load(4, false), (1024 + 1536) + (1024000000 + 1024));
        x.set(4, true);
        Checks.due("4 shows the greatest", x.load(4, true), 1024000000);
        x.set(3, false);
        Checks.due("4 shows it without 3", x.load(4, true), 1024000000);
        Checks.due("4 bears what it bore", x.load(4, false), 6656);
    }

    private static void othersShow() {
        EvenClock x = line();
        x.buffer(1000000, 1, 0);
        for (int k = 0; k < 5; k++) {
            Checks.due("without buffers: " + k, x.load(k, true), x.load(k, false));
        }
        x.set(4, true);
        for (int k = 0; k < 4; k++) {
            Checks.due("with one at the root: " + k, x.load(k, true), x.load(k, false));
        }
        x.set(4, false);
        Checks.due("after it was taken away", x.load(4, true), 6656);
    }

    private static void ofDelays() {
        Checks.sentence("Delay: of a wire of length 0", CircuitBoundsTest::noWireNoDelay);
        Checks.sentence("Delay: of a wire its resistance times (its capacity and twice what is shown below)",
                CircuitBoundsTest::wireDelay);
        Checks.sentence("Delay: of a buffer its own delay and twice its drive times what its join bears",
                CircuitBoundsTest::bufferDelay);
        Checks.sentence("Delay: from the source to it (the wire above the root and that above itself, too)",
                CircuitBoundsTest::firstAndLastWire);
        Checks.sentence("Delay: a buffer that is not above a sink is none of its own",
                CircuitBoundsTest::bufferElsewhere);
    }

    private static void noWireNoDelay() {
        EvenClock x = Checks.together(10);
        x.wires(20, 20);
        x.build(1);
        for (int k = 0; k < 10; k++) {
            Checks.due("sink " + k, x.delay(k), 0);
        }
        Checks.due("slack", x.slack(), 0);
    }

    private static void wireDelay() {
        EvenClock x = Checks.builtAt(0, 1, 0);
        Checks.due("r 1, c 1", x.delay(0), 1024 * (1024 + 2048));
        x.wires(20, 1);
        Checks.due("r 20, c 1", x.delay(0), 20480 * (1024 + 2048));
        x.wires(1, 20);
        Checks.due("r 1, c 20", x.delay(0), 1024 * (20480 + 2048));
        x.wires(20, 20);
        Checks.due("r 20, c 20", x.delay(0), 20480 * (20480 + 2048));
    }

    private static void bufferDelay() {
        EvenClock x = line();
        x.set(3, true);
        Checks.due("as at first", x.delay(0), 1310720 + 2 * 3072 + 3145728 + 16515072);
        x.buffer(2, 5, 7);
        Checks.due("2, 5, 7", x.delay(0), 1310720 + (7 + 10 * 3072) + 5242880 + 19660800);
        x.buffer(2, 5, 0);
        Checks.due("no delay of its own", x.delay(0), 1310720 + 10 * 3072 + 5242880 + 19660800);
        x.buffer(2, 5, MOST);
        Checks.due("the greatest of its own", x.delay(0), 1310720L + MOST + 10 * 3072 + 5242880 + 19660800);
    }

    private static void firstAndLastWire() {
        EvenClock x = line();
        int root = 1536 * (1536 + 2 * 6656);
        Checks.due("0: its own, 3's and the root's", x.delay(0), 1310720 + 7340032 + root);
        Checks.due("1: as 0", x.delay(1), 1310720 + 7340032 + root);
        Checks.due("2: its own and the root's", x.delay(2), 1536 * (1536 + 2048) + root);
        Checks.due("one sink: both are one wire, that counts once", Checks.builtAt(0, 3, 0).delay(0),
                3072 * (3072 + 2048));
        x.set(4, true);
        Checks.due("a buffer at the root counts, too", x.delay(2), 5505024 + 2 * 6656 + 1536 * (1536 + 2048));
    }

    private static void bufferElsewhere() {
        EvenClock x = line();
        x.buffer(1, 1000, MOST);
        x.set(3, true);
        Checks.due("only what the root bears is changed", x.delay(2), 5505024 + 1536 * (1536 + 2 * 4608));
    }

    private static void ofSlacks() {
        Checks.sentence("Slack: 1048576 times its need less its delay", CircuitBoundsTest::needLessDelay);
        Checks.sentence("Slack: that of the tree is the least one of its sinks", CircuitBoundsTest::leastSlack);
    }

    private static long slackOfUnit(int need) {
        EvenClock x = new EvenClock();
        x.sink(1, 0, 1, need);
        x.build(0);
        return x.slack();
    }

    /** The delay is 3145728, three times 1048576. */
    private static void needLessDelay() {
        Checks.due("need 0", slackOfUnit(0), -3145728);
        Checks.due("just under 0", slackOfUnit(2), -1048576);
        Checks.due("0", slackOfUnit(3), 0);
        Checks.due("just over 0", slackOfUnit(4), 1048576);
        Checks.due("the greatest need", slackOfUnit(MOST), 1048576000000000L - 3145728);
    }

    private static long slackOfNeeds(int way, int... needs) {
        EvenClock x = new EvenClock();
        for (int need : needs) {
            x.sink(0, 0, 1, need);
        }
        x.build(way);
        return x.slack();
    }

    private static void leastSlack() {
        for (int n = 1; n <= 10; n++) {
            for (int least = 0; least < n; least++) {
                int[] needs = new int[n];
                java.util.Arrays.fill(needs, 6);
                needs[least] = 5;
                Checks.due("least at " + least + " of " + n, slackOfNeeds(n % 2, needs), 5 * 1048576);
            }
        }
        Checks.due("all alike", slackOfNeeds(0, 7, 7, 7), 7 * 1048576);
        Checks.due("from none to the greatest", slackOfNeeds(0, MOST, 0, MOST), 0);
        Checks.due("the greatest of all", slackOfNeeds(1, MOST, MOST), 1048576000000000L);
    }

    private static void ofSettings() {
        Checks.sentence("Terms: at first (when the tree is built) no buffer", CircuitBoundsTest::noneAtFirst);
        Checks.sentence("12: set: whether that changed something", CircuitBoundsTest::setChanges);
        Checks.sentence("Terms: a setting's number is the sum of 1 << (join - n)", CircuitBoundsTest::numbers);
        Checks.sentence("13: setting: with no join it is 0", CircuitBoundsTest::settingOfOne);
    }

    private static void noneAtFirst() {
        EvenClock x = Checks.together(10);
        x.build(0);
        Checks.due("in the first tree", x.setting(), 0);
        for (int join = 10; join < 19; join++) {
            x.set(join, true);
        }
        x.build(0);
        Checks.due("in the same tree again", x.setting(), 0);
        Checks.due("it is to be set anew", x.set(18, true), true);
        x.build(1);
        Checks.due("in a tree by the other way", x.setting(), 0);
        x.set(10, true);
        x.cut(10);
        x.build(1);
        Checks.due("after the tree was ended", x.setting(), 0);
        Checks.due("the root shows what it bears", x.load(18, true), 10240);
    }

    private static void setChanges() {
        EvenClock x = Checks.together(10);
        x.build(0);
        for (int join = 10; join < 19; join++) {
            Checks.due("taken from none", x.set(join, false), false);
            Checks.due("set", x.set(join, true), true);
            Checks.due("set again", x.set(join, true), false);
            Checks.due("still set", x.load(join, true), 1024);
            Checks.due("taken away", x.set(join, false), true);
            Checks.due("taken away again", x.set(join, false), false);
            Checks.due("still none", x.setting(), 0);
        }
    }

    private static void numbers() {
        for (int n = 2; n <= 10; n++) {
            EvenClock x = Checks.together(n);
            x.build(n % 2);
            for (int i = 0; i < n - 1; i++) {
                x.set(n + i, true);
                Checks.due("alone " + i + " of " + n, x.setting(), 1 << i);
                x.set(n + i, false);
            }
            for (int i = 0; i < n - 1; i++) {
                x.set(n + i, true);
                Checks.due("with those before " + i + " of " + n, x.setting(), (2 << i) - 1);
            }
            for (int i = 0; i < n - 1; i++) {
                x.set(n + i, false);
                Checks.due("without " + i + " of " + n, x.setting(), (1 << (n - 1)) - (2 << i));
            }
        }
    }

    private static void settingOfOne() {
        EvenClock x = Checks.builtAt(0, 5, 5);
        Checks.due("built", x.setting(), 0);
        Checks.due("improved", x.improve(), 0);
        Checks.due("after it", x.setting(), 0);
    }

    private static void ofBest() {
        Checks.sentence("Best: the greatest slack of the tree", CircuitBoundsTest::greatestSlack);
        Checks.sentence("Best: of several the one with the least number: none", CircuitBoundsTest::noneOfSeveral);
        Checks.sentence("Best: of several the one with the least number: not none", CircuitBoundsTest::leastOfSeveral);
        Checks.sentence("Best: of several the one with the least number: 1 of 1, 2 and 3",
                CircuitBoundsTest::oneOfThree);
        Checks.sentence("Best: of one sink", CircuitBoundsTest::bestOfOne);
        Checks.sentence("Best: all nine joins of ten sinks", CircuitBoundsTest::allNine);
        Checks.sentence("17: best: it changes nothing", CircuitBoundsTest::bestChangesNothing);
        Checks.sentence("18: improve: the present setting becomes the best one", CircuitBoundsTest::improved);
    }

    private static void greatestSlack() {
        // Wires of 2048 above both sinks and above their join, which bears 6144.
        EvenClock x = Checks.builtAt(0, 0, 0, 2, 2);
        Checks.due("none set", x.slack(), -8388608 - 2048 * (2048 + 2 * 6144));
        Checks.due("with it", x.best(), -8388608 - 12288 - 2048 * (2048 + 2 * 1024));
        // The buffer takes 2 * 6144 and its own delay, and spares 2048 * 2 * (6144 - 1024) in the wire above it.
        int alike = 2048 * 2 * (6144 - 1024) - 2 * 6144;
        x.buffer(1, 1, alike - 1);
        Checks.due("better by one", x.best(), -29360128 - 8388608 + 1);
        Checks.due("it is set", x.improve(), 1);
        x.buffer(1, 1, alike);
        Checks.due("as good", x.best(), -29360128 - 8388608);
        Checks.due("none is set", x.improve(), 0);
        x.buffer(1, 1, alike + 1);
        Checks.due("worse by one", x.best(), -29360128 - 8388608);
        Checks.due("none is set, either", x.improve(), 0);
    }

    /** Join 4 is above sinks 0 and 1, which have time; join 5 above 2 and 3, which have none. No root wire. */
    private static EvenClock twoPairs() {
        EvenClock x = new EvenClock();
        x.sink(0, 0, 1, MOST);
        x.sink(0, 0, 1, MOST);
        x.sink(4, 0, 1, 0);
        x.sink(4, 0, 1, 0);
        x.source(2, 0);
        x.build(0);
        return x;
    }

    private static void noneOfSeveral() {
        EvenClock x = twoPairs();
        x.buffer(1000000, 1, 0);
        Checks.due("none", x.slack(), -12582912);
        x.set(4, true);
        Checks.due("1 is as good", x.slack(), -12582912);
        Checks.due("best", x.best(), -12582912);
        Checks.due("improve", x.improve(), 0);
        Checks.due("the buffer is gone", x.setting(), 0);
    }

    private static void leastOfSeveral() {
        EvenClock x = twoPairs();
        x.set(5, true);
        Checks.due("2", x.slack(), -8392704);
        x.set(4, true);
        Checks.due("3 is as good", x.slack(), -8392704);
        Checks.due("best", x.best(), -8392704);
        Checks.due("improve", x.improve(), 2);
        Checks.due("the other buffer is gone", x.setting(), 2);
        Checks.due("from 2, too", x.improve(), 2);
    }

    /** Sinks 0 and 1 are the worst without a buffer at join 4 or 5; with one sink 3 is, which has none above it. */
    private static EvenClock oneOfTwoHelps() {
        EvenClock x = new EvenClock();
        x.sink(0, 0, 1, 10);
        x.sink(1, 0, 1, 10);
        x.sink(3, 0, 1, 100);
        x.sink(6, 0, 1, 0);
        x.source(3, 0);
        x.build(0);
        return x;
    }

    private static void oneOfThree() {
        int[] slacks = {-20971520, -15728640, -15728640, -15728640};
        for (int setting = 0; setting < 8; setting++) {
            EvenClock x = oneOfTwoHelps();
            for (int i = 0; i < 3; i++) {
                x.set(4 + i, (setting >> i & 1) != 0);
            }
            if (setting < 4) {
                Checks.due("slack of " + setting, x.slack(), slacks[setting]);
            } else {
                Checks.due("the root's buffer is above all: " + setting, x.slack() < -15728640, true);
            }
            Checks.due("best from " + setting, x.best(), -15728640);
            Checks.due("improve from " + setting, x.improve(), 1);
        }
    }

    private static void bestOfOne() {
        EvenClock x = Checks.builtAt(1, 3, 0);
        Checks.due("best", x.best(), -3072 * (3072 + 2048));
        Checks.due("improve", x.improve(), 0);
        Checks.due("slack", x.slack(), -3072 * (3072 + 2048));
    }

    /** Joined one by one; only the two deepest sinks lack time, so that a buffer at each join helps. */
    private static EvenClock deep() {
        int[] places = {0, 1, 3, 6, 11, 20, 35, 61, 105, 180};
        EvenClock x = new EvenClock();
        for (int k = 0; k < 10; k++) {
            x.sink(places[k], 0, 1, k < 2 ? 0 : MOST);
        }
        x.wires(20, 20);
        x.build(0);
        return x;
    }

    private static long slackWith(int setting) {
        EvenClock x = deep();
        for (int i = 0; i < 9; i++) {
            x.set(10 + i, (setting >> i & 1) != 0);
        }
        return x.slack();
    }

    private static void allNine() {
        long greatest = slackWith(511);
        for (int setting = 0; setting < 511; setting++) {
            Checks.due(setting + " is worse", slackWith(setting) < greatest, true);
        }
        EvenClock x = deep();
        Checks.due("best", x.best(), greatest);
        Checks.due("improve", x.improve(), 511);
        Checks.due("slack", x.slack(), greatest);
        for (int i = 0; i < 9; i++) {
            Checks.due("set at " + i, x.set(10 + i, true), false);
        }
    }

    private static void bestChangesNothing() {
        for (int setting = 0; setting < 8; setting++) {
            EvenClock x = twoPairs();
            for (int i = 0; i < 3; i++) {
                x.set(4 + i, (setting >> i & 1) != 0);
            }
            String before = Checks.answers(x);
            Checks.due("best from " + setting, x.best(), -8392704);
            Checks.due("best again", x.best(), -8392704);
            Checks.due("setting", x.setting(), setting);
            Checks.same("all", Checks.answers(x), before);
        }
    }

    private static void improved() {
        for (int setting = 0; setting < 8; setting++) {
            EvenClock x = twoPairs();
            for (int i = 0; i < 3; i++) {
                x.set(4 + i, (setting >> i & 1) != 0);
            }
            Checks.due("improve from " + setting, x.improve(), 2);
            Checks.due("setting", x.setting(), 2);
            Checks.due("slack", x.slack(), -8392704);
            Checks.due("5 shows its input", x.load(5, true), 1024);
            Checks.due("4 shows what it bears", x.load(4, true), 2048);
        }
        EvenClock x = twoPairs();
        x.improve();
        x.buffer(1000000, 1000, MOST);
        Checks.due("with a worse buffer none is left", x.improve(), 0);
        x.buffer(1, 1, 0);
        Checks.due("and set again with a better one", x.improve(), 2);
    }

    private static void withinALong() {
        int[] corners = {0, 0, 200, 200, 200, 0, 0, 200, 0, 0, 200, 200, 200, 0, 0, 200, 100, 100, 0, 200};
        int[] line = {0, 0, 1, 0, 3, 0, 6, 0, 11, 0, 20, 0, 35, 0, 61, 0, 105, 0, 200, 55};
        for (int way = 0; way < 2; way++) {
            for (int setting : new int[] {0, 511, 341, 170, 256, 255}) {
                isAsGreat(greatest(corners, way), setting);
                isAsGreat(greatest(line, way), setting);
            }
            isBestOfAll(greatest(corners, way));
            isBestOfAll(greatest(line, way));
        }
    }

    /** The greatest of all that can be given; every other sink has no time. */
    private static EvenClock greatest(int[] xy, int way) {
        EvenClock x = new EvenClock();
        for (int k = 0; k < 10; k++) {
            x.sink(xy[2 * k], xy[2 * k + 1], 100, k % 2 == 0 ? 0 : MOST);
        }
        x.source(200, 200);
        x.wires(20, 20);
        x.buffer(1000000, 1000, MOST);
        x.build(way);
        return x;
    }

    private static void isAsGreat(EvenClock x, int setting) {
        for (int i = 0; i < 9; i++) {
            x.set(10 + i, (setting >> i & 1) != 0);
        }
        Unbounded due = new Unbounded(x);
        for (int k = 0; k < 19; k++) {
            Checks.same("bears " + k, Long.toString(x.load(k, false)), due.bears(k, setting).toString());
            Checks.same("shows " + k, Long.toString(x.load(k, true)), due.shows(k, setting).toString());
        }
        for (int k = 0; k < 10; k++) {
            Checks.same("delay of " + k, Long.toString(x.delay(k)), due.delay(k, setting).toString());
        }
        Checks.same("slack", Long.toString(x.slack()), due.slack(setting).toString());
    }

    private static void isBestOfAll(EvenClock x) {
        Unbounded due = new Unbounded(x);
        int best = 0;
        for (int setting = 1; setting < 512; setting++) {
            best = due.slack(setting).compareTo(due.slack(best)) > 0 ? setting : best;
        }
        Checks.same("best", Long.toString(x.best()), due.slack(best).toString());
        Checks.due("improve", x.improve(), best);
    }

    /** A tree of the greatest numbers, worked out from its wires with numbers that have no bound. */
    private static final class Unbounded {
        final int[] left = new int[19];
        final int[] right = new int[19];
        final int[] parent = new int[19];
        final int[] wire = new int[19];

        Unbounded(EvenClock x) {
            for (int k = 0; k < 19; k++) {
                left[k] = x.node(k, Checks.LEFT);
                right[k] = x.node(k, Checks.RIGHT);
                parent[k] = x.node(k, Checks.PARENT);
                wire[k] = x.node(k, Checks.WIRE);
            }
        }

        private static BigInteger big(long value) {
            return BigInteger.valueOf(value);
        }

        private static boolean isSet(int k, int setting) {
            return k >= 10 && (setting >> (k - 10) & 1) != 0;
        }

        /** Resistance and capacity alike: 20 times the length. */
        private BigInteger ofWire(int k) {
            return big(20).multiply(big(wire[k]));
        }

        BigInteger shows(int k, int setting) {
            return isSet(k, setting) ? big(1024000000) : bears(k, setting);
        }

        BigInteger bears(int k, int setting) {
            if (k < 10) {
                return big(102400);
            }
            return shows(left[k], setting).add(ofWire(left[k])).add(shows(right[k], setting)).add(ofWire(right[k]));
        }

        BigInteger delay(int sink, int setting) {
            BigInteger sum = BigInteger.ZERO;
            for (int k = sink; k != -1; k = parent[k]) {
                BigInteger twice = big(2).multiply(shows(k, setting));
                sum = sum.add(ofWire(k).multiply(ofWire(k).add(twice)));
                if (isSet(k, setting)) {
                    sum = sum.add(big(MOST)).add(big(2000).multiply(bears(k, setting)));
                }
            }
            return sum;
        }

        BigInteger slack(int setting) {
            BigInteger least = null;
            for (int k = 0; k < 10; k++) {
                BigInteger need = big(1048576).multiply(big(k % 2 == 0 ? 0 : MOST));
                BigInteger slack = need.subtract(delay(k, setting));
                least = least == null ? slack : least.min(slack);
            }
            return least;
        }
    }
}
