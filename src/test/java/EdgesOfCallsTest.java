import java.util.ArrayList;
import java.util.List;
import java.util.function.IntSupplier;
import java.util.function.Supplier;
import java.util.function.ToIntFunction;

/**
 * For each promise, sentence by sentence: the last value that is taken and the first that is not, on both sides;
 * nothing there yet, and no room left; what a refused call answers, and that it changes nothing.
 *
 * An object is good for 512 calls; no test here makes more on one object.
 */
public final class EdgesOfCallsTest {
    private static final int UNKNOWN = -1;
    private static final int OUTSIDE = -2;
    private static final int STATE = -3;
    private static final int FULL = -4;
    private static final int NONE = -6;
    private static final int FAULT = -7;
    private static int wrong = 0;
    private static int tests = 0;
    private static String sentence = "";

    public static void main(String[] args) {
        constants();
        newObject();
        point();
        pop();
        move();
        near();
        of();
        far();
        attempt();
        time();
        say();
        wipe();
        told();
        best();
        nearest();
        loosen();
        join();
        sees();
        fits();
        hidden();
        halves();
        image();
        restore();
        count();
        tellingCalls();
        lastCall();
        System.out.println(tests + " sentences; " + (wrong == 0 ? "all hold" : wrong + " answers are not as due"));
        if (wrong != 0) {
            System.exit(1);
        }
    }

    // ---- how a sentence is tested

    private static void test(String named, Runnable body) {
        sentence = named;
        tests++;
        try {
            body.run();
        } catch (RuntimeException thrown) {
            wrong++;
            System.out.println(sentence + ": it threw " + thrown);
        }
    }

    private static void due(String call, int got, int want) {
        if (got != want) {
            wrong++;
            System.out.println(sentence + ": " + call + " answered " + got + ", due is " + want);
        }
    }

    /** Asks each of the boards; a board of the same making that was not asked must look alike afterwards. */
    private static void changesNothing(String call, List<Supplier<NeedlePairs>> boards, ToIntFunction<NeedlePairs> ask,
            int want) {
        for (Supplier<NeedlePairs> make : boards) {
            NeedlePairs asked = make.get();
            due(call, ask.applyAsInt(asked), want);
            if (!wholeLook(asked).equals(wholeLook(make.get()))) {
                wrong++;
                System.out.println(sentence + ": " + call + " changed something");
            }
        }
    }

    /** A call that only tells: asked again it answers the same, and all else is as it was. */
    private static void onlyTells(String call, ToIntFunction<NeedlePairs> ask) {
        for (Supplier<NeedlePairs> make : ALL) {
            int first = ask.applyAsInt(make.get());
            changesNothing(call + ", once", List.of(make), ask, first);
            changesNothing(call + ", again", List.of(make), x -> {
                ask.applyAsInt(x);
                return ask.applyAsInt(x);
            }, first);
        }
    }

    /** What can be asked of the board, and then of what its IMAGES kept: some 430 calls at most. */
    private static String wholeLook(NeedlePairs x) {
        StringBuilder text = new StringBuilder();
        look(x, text);
        for (int k = 0; k < 2; k++) {
            if (x.restore(k) == 1) {
                look(x, text.append('|'));
            }
        }
        return text.toString();
    }

    private static void look(NeedlePairs x, StringBuilder text) {
        for (int what = 0; what <= 8; what++) {
            tell(text, x.count(what));
        }
        for (int p = 0; p < x.count(0); p++) {
            for (int what = 0; what <= 3; what++) {
                tell(text, x.of(p, what));
            }
        }
        int tries = x.count(1);
        for (int t = 0; t < tries; t++) {
            for (int what = 0; what <= 4; what++) {
                tell(text, x.attempt(t, what));
            }
        }
        for (int i = -1; i < tries; i++) {
            tell(text, x.best(i));
            tell(text, x.nearest(i));
        }
        tell(text, x.told());
        tell(text, x.sees());
        tell(text, x.fits(-1));
        tell(text, x.fits(0));
        tell(text, x.hidden(0));
        tell(text, x.hidden(1));
        for (int net = 0; net <= 3; net++) {
            tell(text, x.halves(net, 0));
            tell(text, x.halves(net, 1));
        }
    }

    private static void tell(StringBuilder text, int answer) {
        text.append(answer).append(' ');
    }

    /**
     * Numbers that are not low to high: the next ones first; then far ones, and ones that would be within after a
     * wrap-around to 5, 8 or 16 bits or by a sign that is lost.
     */
    private static int[] beyond(int low, int high) {
        int[] tried = {low - 1, high + 1, low - 2, high + 2, low - 32, low + 32, high + 64, low + 256, low - 256,
            low + 65536, high - 65536, low + (1 << 30), Integer.MIN_VALUE, Integer.MIN_VALUE + 1,
            Integer.MIN_VALUE + high, Integer.MAX_VALUE, Integer.MAX_VALUE - 1, -high - 8};
        List<Integer> found = new ArrayList<>();
        for (int v : tried) {
            if (v < low || v > high) {
                found.add(v);
            }
        }
        return found.stream().mapToInt(Integer::intValue).toArray();
    }

    private static void say(NeedlePairs x, String text) {
        for (int k = 0; k < text.length(); k++) {
            x.say(text.charAt(k));
        }
    }

    // ---- boards

    private static NeedlePairs empty() {
        return new NeedlePairs();
    }

    /** TRIES: a = 0-1, b = 2-3 and, between the NETS, c = 1-2. */
    private static NeedlePairs twoNets() {
        NeedlePairs x = new NeedlePairs();
        x.point(0, 0, 0);
        x.point(0, 4, 0);
        x.point(1, 10, 3);
        x.point(1, 20, 3);
        return x;
    }

    /** No POINTS, but all else is told; both IMAGES are kept. */
    private static NeedlePairs bare() {
        NeedlePairs x = new NeedlePairs();
        x.point(2, 5, 5);
        x.image(0);
        x.pop();
        x.image(1);
        x.near(7);
        x.join(1, 3, 1);
        return x;
    }

    /** Seven POINTS, LOOSE ones, SHORT NETS, THE PAD with an ORDER, IMAGE 1 kept, IMAGE 0 not. */
    private static NeedlePairs busy() {
        NeedlePairs x = twoNets();
        x.loosen(0, 1);
        x.near(300);
        x.image(1);
        x.point(2, 8, 15);
        x.point(0, 3, 7);
        x.point(2, 17, 9);
        x.loosen(5, 1);
        x.loosen(0, 0);
        x.join(0, 2, 1);
        x.near(60);
        say(x, "cabdfe");
        return x;
    }

    /** Eight POINTS, ten TRIES, THE PAD with an ORDER of them, both IMAGES kept, all NETS SHORT but one pair. */
    private static NeedlePairs full() {
        NeedlePairs x = new NeedlePairs();
        x.image(0);
        for (int k = 0; k < 8; k++) {
            x.point(k % 4, (k * 7 + 3) % 21, (k * 5 + 1) % 21);
        }
        x.near(800);
        x.image(1);
        x.loosen(7, 1);
        for (int net = 0; net < 3; net++) {
            x.join(net, 3, 1);
        }
        x.join(0, 1, 1);
        x.join(1, 2, 1);
        say(x, "jabcdefghi");
        return x;
    }

    /** THE PAD has all its 24 signs. */
    private static NeedlePairs fullPad() {
        NeedlePairs x = twoNets();
        say(x, "abcdefghijklmnopqrstuvwx");
        return x;
    }

    private static final Supplier<NeedlePairs> EMPTY = EdgesOfCallsTest::empty;
    private static final Supplier<NeedlePairs> TWO_NETS = EdgesOfCallsTest::twoNets;
    private static final Supplier<NeedlePairs> BARE = EdgesOfCallsTest::bare;
    private static final Supplier<NeedlePairs> BUSY = EdgesOfCallsTest::busy;
    private static final Supplier<NeedlePairs> FULL_BOARD = EdgesOfCallsTest::full;
    private static final Supplier<NeedlePairs> FULL_PAD = EdgesOfCallsTest::fullPad;
    private static final List<Supplier<NeedlePairs>> ALL =
            List.of(EMPTY, TWO_NETS, BARE, BUSY, FULL_BOARD, FULL_PAD);
    private static final List<Supplier<NeedlePairs>> WITH_POINTS = List.of(TWO_NETS, BUSY, FULL_BOARD, FULL_PAD);
    private static final List<Supplier<NeedlePairs>> WITHOUT_POINTS = List.of(EMPTY, BARE);

    // ---- the face, promise 1

    private static void constants() {
        test("the constants", () -> {
            due("UNKNOWN", NeedlePairs.UNKNOWN, -1);
            due("OUTSIDE", NeedlePairs.OUTSIDE, -2);
            due("STATE", NeedlePairs.STATE, -3);
            due("FULL", NeedlePairs.FULL, -4);
            due("NO", NeedlePairs.NO, -5);
            due("NONE", NeedlePairs.NONE, -6);
            due("FAULT", NeedlePairs.FAULT, -7);
        });
        test("the boards here are what these tests take them for", () -> {
            due("busy, POINTS", busy().count(0), 7);
            due("busy, TRIES", busy().count(1), 6);
            due("busy, THE PAD tells an ORDER", busy().told() > 0 ? 1 : 0, 1);
            due("busy, LOOSE", busy().count(4), 1);
            due("busy, IMAGES", busy().count(8), 2);
            due("full, POINTS", full().count(0), 8);
            due("full, TRIES", full().count(1), 10);
            due("full, THE PAD tells an ORDER", full().told() > 0 ? 1 : 0, 1);
            due("full, SHORT", full().count(5), 5);
            due("full, IMAGES", full().count(8), 3);
            due("full pad, signs", fullPad().count(7), 24);
        });
    }

    private static void newObject() {
        test("1: No POINTS", () -> {
            due("count(0)", empty().count(0), 0);
            due("of(0, 0)", empty().of(0, 0), UNKNOWN);
            due("pop()", empty().pop(), STATE);
            due("the first POINT", empty().point(0, 0, 0), 0);
        });
        test("1: nothing is SHORT", () -> {
            due("count(5)", empty().count(5), 0);
            for (int net = 0; net <= 3; net++) {
                due("halves(" + net + ", 1)", empty().halves(net, 1), NONE);
            }
        });
        test("1: THE PAD is empty", () -> {
            due("count(7)", empty().count(7), 0);
            due("wipe()", empty().wipe(), 0);
            due("told()", empty().told(), 0);
            due("say(33)", empty().say(33), 1);
        });
        test("1: no IMAGE is kept", () -> {
            due("count(8)", empty().count(8), 0);
            due("restore(0)", empty().restore(0), STATE);
            due("restore(1)", empty().restore(1), STATE);
        });
        test("1: NEAR is 50 at first", () -> {
            due("count(6)", empty().count(6), 50);
            due("near(1)", empty().near(1), 50);
        });
        test("1: a new object is new, whatever was done with others", () -> {
            String fresh = wholeLook(empty());
            NeedlePairs before = empty();
            full();
            busy();
            due("the one made before", wholeLook(before).equals(fresh) ? 1 : 0, 1);
            due("the one made after", wholeLook(empty()).equals(fresh) ? 1 : 0, 1);
        });
    }

    // ---- promises 2 to 7: points

    private static void point() {
        test("2: A POINT more: its number", () -> {
            NeedlePairs x = empty();
            for (int k = 0; k <= 7; k++) {
                due("POINT " + k, x.point(k % 4, k, 20 - k), k);
                due("count(0)", x.count(0), k + 1);
            }
            for (int k = 0; k <= 7; k++) {
                due("NET of " + k, x.of(k, 0), k % 4);
                due("x of " + k, x.of(k, 1), k);
                due("y of " + k, x.of(k, 2), 20 - k);
                due("LOOSE of " + k, x.of(k, 3), 0);
            }
        });
        test("2: UNKNOWN: the NET, 0 to 3 are taken", () -> {
            for (int net = 0; net <= 3; net++) {
                NeedlePairs x = empty();
                due("point(" + net + ", 4, 4)", x.point(net, 4, 4), 0);
                due("of(0, 0)", x.of(0, 0), net);
            }
            for (int net : beyond(0, 3)) {
                changesNothing("point(" + net + ", 4, 4)", ALL, x -> x.point(net, 4, 4), UNKNOWN);
            }
        });
        test("2: OUTSIDE: x, 0 to 20 is taken", () -> {
            for (int v = 0; v <= 20; v++) {
                NeedlePairs x = empty();
                due("point(0, " + v + ", 4)", x.point(0, v, 4), 0);
                due("of(0, 1)", x.of(0, 1), v);
            }
            for (int v : beyond(0, 20)) {
                changesNothing("point(0, " + v + ", 4)", ALL, x -> x.point(0, v, 4), OUTSIDE);
            }
        });
        test("2: OUTSIDE: y, 0 to 20 is taken", () -> {
            for (int v = 0; v <= 20; v++) {
                NeedlePairs x = empty();
                due("point(0, 4, " + v + ")", x.point(0, 4, v), 0);
                due("of(0, 2)", x.of(0, 2), v);
            }
            for (int v : beyond(0, 20)) {
                changesNothing("point(0, 4, " + v + ")", ALL, x -> x.point(0, 4, v), OUTSIDE);
            }
        });
        test("2: OUTSIDE: both", () ->
            changesNothing("point(0, 21, -1)", ALL, x -> x.point(0, 21, -1), OUTSIDE));
        test("2: FULL: there are 8", () -> {
            changesNothing("point(0, 4, 4)", List.of(FULL_BOARD), x -> x.point(0, 4, 4), FULL);
            NeedlePairs x = full();
            x.pop();
            due("the 8th again", x.point(3, 0, 0), 7);
            due("the 9th", x.point(3, 0, 0), FULL);
        });
        test("2: the first refusal that fits", () -> {
            changesNothing("point(4, 21, 0)", ALL, x -> x.point(4, 21, 0), UNKNOWN);
            changesNothing("point(-1, 0, -1)", ALL, x -> x.point(-1, 0, -1), UNKNOWN);
            changesNothing("full, point(4, 0, 0)", List.of(FULL_BOARD), x -> x.point(4, 0, 0), UNKNOWN);
            changesNothing("full, point(0, 21, 0)", List.of(FULL_BOARD), x -> x.point(0, 21, 0), OUTSIDE);
            changesNothing("full, point(0, 0, -1)", List.of(FULL_BOARD), x -> x.point(0, 0, -1), OUTSIDE);
        });
    }

    private static void pop() {
        test("3: The last POINT goes: how many are left", () -> {
            NeedlePairs x = full();
            for (int left = 7; left >= 0; left--) {
                due("pop()", x.pop(), left);
                due("count(0)", x.count(0), left);
                due("of the one that went", x.of(left, 0), UNKNOWN);
                if (left > 0) {
                    due("of the last that stays", x.of(left - 1, 1), ((left - 1) * 7 + 3) % 21);
                }
            }
        });
        test("3: a POINT that was LOOSE goes with its LOOSE", () -> {
            NeedlePairs x = twoNets();
            x.loosen(2, 1);
            x.loosen(3, 1);
            due("pop()", x.pop(), 3);
            due("count(4)", x.count(4), 1);
            due("of(2, 3)", x.of(2, 3), 1);
            x.point(1, 20, 3);
            due("of(3, 3)", x.of(3, 3), 0);
            due("sees()", x.sees(), 2);
        });
        test("3: all else stays", () -> {
            NeedlePairs x = busy();
            x.pop();
            due("NEAR", x.count(6), 60);
            due("SHORT", x.count(5), 1);
            due("signs", x.count(7), 6);
            due("IMAGES", x.count(8), 2);
            due("LOOSE", x.of(5, 3), 1);
        });
        test("3: STATE: there is none", () -> {
            changesNothing("pop()", WITHOUT_POINTS, NeedlePairs::pop, STATE);
            NeedlePairs x = twoNets();
            for (int k = 3; k >= 0; k--) {
                due("pop()", x.pop(), k);
            }
            due("pop() of none", x.pop(), STATE);
            due("pop() of none, again", x.pop(), STATE);
            due("the next POINT", x.point(0, 0, 0), 0);
            due("pop() of one", x.pop(), 0);
        });
    }

    private static void move() {
        test("4: 21 times the x, and the y, that were, added", () -> {
            NeedlePairs x = empty();
            x.point(2, 0, 0);
            due("from 0, 0", x.move(0, 0, 20), 0);
            due("from 0, 20", x.move(0, 1, 0), 20);
            due("from 1, 0", x.move(0, 20, 0), 21);
            due("from 20, 0", x.move(0, 20, 20), 420);
            due("from 20, 20", x.move(0, 20, 20), 440);
            due("from 20, 20 to itself", x.move(0, 3, 9), 440);
            due("from 3, 9", x.move(0, 9, 3), 72);
            due("the x", x.of(0, 1), 9);
            due("the y", x.of(0, 2), 3);
            due("the NET", x.of(0, 0), 2);
        });
        test("4: A POINT lies elsewhere: the first and the last, and no other one", () -> {
            NeedlePairs x = full();
            due("move(0, 1, 2)", x.move(0, 1, 2), 21 * 3 + 1);
            due("move(7, 2, 1)", x.move(7, 2, 1), 21 * 10 + 15);
            for (int p = 0; p < 8; p++) {
                due("x of " + p, x.of(p, 1), p == 0 ? 1 : p == 7 ? 2 : (p * 7 + 3) % 21);
                due("y of " + p, x.of(p, 2), p == 0 ? 2 : p == 7 ? 1 : (p * 5 + 1) % 21);
            }
            due("LOOSE stays", x.of(7, 3), 1);
        });
        test("4: UNKNOWN", () -> {
            for (int p : beyond(0, 3)) {
                changesNothing("move(" + p + ", 1, 1)", List.of(TWO_NETS), x -> x.move(p, 1, 1), UNKNOWN);
            }
            for (int p : beyond(0, 7)) {
                changesNothing("move(" + p + ", 1, 1)", List.of(FULL_BOARD), x -> x.move(p, 1, 1), UNKNOWN);
            }
            changesNothing("move(7, 1, 1)", List.of(BUSY), x -> x.move(7, 1, 1), UNKNOWN);
            changesNothing("move(0, 1, 1)", WITHOUT_POINTS, x -> x.move(0, 1, 1), UNKNOWN);
        });
        test("4: OUTSIDE: both", () -> {
            for (int v : beyond(0, 20)) {
                changesNothing("move(0, " + v + ", 1)", WITH_POINTS, x -> x.move(0, v, 1), OUTSIDE);
                changesNothing("move(0, 1, " + v + ")", WITH_POINTS, x -> x.move(0, 1, v), OUTSIDE);
            }
        });
        test("4: the first refusal that fits", () -> {
            changesNothing("move(8, 21, 1)", ALL, x -> x.move(8, 21, 1), UNKNOWN);
            changesNothing("move(-1, 1, -1)", ALL, x -> x.move(-1, 1, -1), UNKNOWN);
        });
    }

    private static void near() {
        test("5: NEAR is v: which it was", () -> {
            NeedlePairs x = empty();
            int was = 50;
            for (int v : new int[] {0, 800, 1, 799, 799, 50, 0}) {
                due("near(" + v + ")", x.near(v), was);
                due("count(6)", x.count(6), v);
                was = v;
            }
        });
        test("5: OUTSIDE", () -> {
            for (int v : beyond(0, 800)) {
                changesNothing("near(" + v + ")", ALL, x -> x.near(v), OUTSIDE);
            }
        });
    }

    private static void of() {
        test("6: NET (what = 0), x (1), y (2), whether it is LOOSE (3: 1, 0)", () -> {
            NeedlePairs x = full();
            int[][] want = {{0, 3, 1, 0}, {3, 10, 15, 1}};
            for (int what = 0; what <= 3; what++) {
                due("of(0, " + what + ")", x.of(0, what), want[0][what]);
                due("of(7, " + what + ")", x.of(7, what), want[1][what]);
            }
        });
        test("6: UNKNOWN", () -> {
            for (int p : beyond(0, 3)) {
                changesNothing("of(" + p + ", 0)", List.of(TWO_NETS), x -> x.of(p, 0), UNKNOWN);
                changesNothing("of(" + p + ", 3)", List.of(TWO_NETS), x -> x.of(p, 3), UNKNOWN);
            }
            for (int p : beyond(0, 7)) {
                changesNothing("of(" + p + ", 1)", List.of(FULL_BOARD), x -> x.of(p, 1), UNKNOWN);
            }
            changesNothing("of(0, 0)", WITHOUT_POINTS, x -> x.of(0, 0), UNKNOWN);
        });
        test("6: OUTSIDE", () -> {
            for (int what : beyond(0, 3)) {
                changesNothing("of(0, " + what + ")", WITH_POINTS, x -> x.of(0, what), OUTSIDE);
            }
        });
        test("6: the first refusal that fits", () -> {
            changesNothing("of(8, 4)", ALL, x -> x.of(8, 4), UNKNOWN);
            changesNothing("of(-1, -1)", ALL, x -> x.of(-1, -1), UNKNOWN);
        });
    }

    private static void far() {
        test("7: FAR of two POINTS (or of one)", () -> {
            NeedlePairs x = twoNets();
            int[][] want = {{0, 16, 109, 409}, {16, 0, 45, 265}, {109, 45, 0, 100}, {409, 265, 100, 0}};
            for (int p = 0; p < 4; p++) {
                for (int q = 0; q < 4; q++) {
                    due("far(" + p + ", " + q + ")", x.far(p, q), want[p][q]);
                }
            }
            NeedlePairs y = full();
            due("far(7, 7)", y.far(7, 7), 0);
            due("far(0, 7)", y.far(0, 7), 49 + 196);
        });
        test("7: UNKNOWN: both", () -> {
            for (int p : beyond(0, 3)) {
                changesNothing("far(" + p + ", 0)", List.of(TWO_NETS), x -> x.far(p, 0), UNKNOWN);
                changesNothing("far(3, " + p + ")", List.of(TWO_NETS), x -> x.far(3, p), UNKNOWN);
                changesNothing("far(" + p + ", " + p + ")", List.of(TWO_NETS), x -> x.far(p, p), UNKNOWN);
            }
            for (int p : beyond(0, 7)) {
                changesNothing("far(" + p + ", 7)", List.of(FULL_BOARD), x -> x.far(p, 7), UNKNOWN);
                changesNothing("far(0, " + p + ")", List.of(FULL_BOARD), x -> x.far(0, p), UNKNOWN);
            }
            changesNothing("far(0, 0)", WITHOUT_POINTS, x -> x.far(0, 0), UNKNOWN);
        });
    }

    // ---- promises 8 to 14: tries, orders

    private static void attempt() {
        test("8: LEFT (0), RIGHT (1), NEIGHBOURS (2), CONDUCTS (3), SEES (4)", () -> {
            NeedlePairs x = twoNets();
            x.loosen(3, 1);
            x.join(0, 1, 1);
            int[][] want = {{0, 1, 0, 1, 0}, {2, 3, 0, 0, 1}, {1, 2, 1, 1, 1}};
            for (int t = 0; t < 3; t++) {
                for (int what = 0; what <= 4; what++) {
                    due("attempt(" + t + ", " + what + ")", x.attempt(t, what), want[t][what]);
                }
            }
        });
        test("8: UNKNOWN", () -> {
            for (int t : beyond(0, 2)) {
                for (int what = 0; what <= 4; what++) {
                    int asked = what;
                    changesNothing("attempt(" + t + ", " + what + ")", List.of(TWO_NETS), x -> x.attempt(t, asked),
                            UNKNOWN);
                }
            }
            for (int t : beyond(0, 9)) {
                changesNothing("attempt(" + t + ", 0)", List.of(FULL_BOARD), x -> x.attempt(t, 0), UNKNOWN);
            }
            changesNothing("attempt(0, 0)", WITHOUT_POINTS, x -> x.attempt(0, 0), UNKNOWN);
            NeedlePairs x = full();
            due("the last of ten", x.attempt(9, 2), 1);
            x.near(0);
            due("the last of four", x.attempt(3, 2), 0);
            due("no longer there", x.attempt(4, 2), UNKNOWN);
        });
        test("8: OUTSIDE", () -> {
            for (int what : beyond(0, 4)) {
                changesNothing("attempt(0, " + what + ")", WITH_POINTS, x -> x.attempt(0, what), OUTSIDE);
                changesNothing("attempt(2, " + what + ")", WITH_POINTS, x -> x.attempt(2, what), OUTSIDE);
            }
        });
        test("8: the first refusal that fits", () -> {
            changesNothing("attempt(10, 5)", ALL, x -> x.attempt(10, 5), UNKNOWN);
            changesNothing("attempt(-1, -1)", ALL, x -> x.attempt(-1, -1), UNKNOWN);
        });
    }

    private static void time() {
        test("9: TIME from a TRY (-1: from where needles stand at first) to another one (or the same)", () -> {
            NeedlePairs x = twoNets();
            int[][] want = {{16, 10, 10}, {0, 16, 6}, {16, 0, 10}, {6, 10, 0}};
            for (int from = -1; from < 3; from++) {
                for (int to = 0; to < 3; to++) {
                    due("time(" + from + ", " + to + ")", x.time(from, to), want[from + 1][to]);
                }
            }
            due("ten TRIES, the last to itself", full().time(9, 9), 0);
        });
        test("9: UNKNOWN: both: from", () -> {
            for (int t : beyond(-1, 2)) {
                changesNothing("time(" + t + ", 0)", List.of(TWO_NETS), x -> x.time(t, 0), UNKNOWN);
            }
            for (int t : beyond(-1, 9)) {
                changesNothing("time(" + t + ", 9)", List.of(FULL_BOARD), x -> x.time(t, 9), UNKNOWN);
            }
        });
        test("9: UNKNOWN: both: to (where needles stand at first, too)", () -> {
            for (int t : beyond(0, 2)) {
                changesNothing("time(2, " + t + ")", List.of(TWO_NETS), x -> x.time(2, t), UNKNOWN);
                changesNothing("time(-1, " + t + ")", List.of(TWO_NETS), x -> x.time(-1, t), UNKNOWN);
                changesNothing("time(" + t + ", " + t + ")", List.of(TWO_NETS), x -> x.time(t, t), UNKNOWN);
            }
            for (int t : beyond(0, 9)) {
                changesNothing("time(0, " + t + ")", List.of(FULL_BOARD), x -> x.time(0, t), UNKNOWN);
            }
            changesNothing("time(-1, -1)", ALL, x -> x.time(-1, -1), UNKNOWN);
        });
        test("9: UNKNOWN: there are no TRIES", () -> {
            changesNothing("time(-1, 0)", WITHOUT_POINTS, x -> x.time(-1, 0), UNKNOWN);
            changesNothing("time(0, 0)", WITHOUT_POINTS, x -> x.time(0, 0), UNKNOWN);
        });
    }

    private static void say() {
        test("10: A sign more on THE PAD: how many", () -> {
            for (int sign = 33; sign <= 126; sign++) {
                NeedlePairs x = empty();
                due("say(" + sign + ")", x.say(sign), 1);
                due("count(7)", x.count(7), 1);
            }
        });
        test("10: OUTSIDE: it is not 33 to 126", () -> {
            for (int sign : beyond(33, 126)) {
                changesNothing("say(" + sign + ")", ALL, x -> x.say(sign), OUTSIDE);
            }
            changesNothing("say(0)", ALL, x -> x.say(0), OUTSIDE);
        });
        test("10: FULL: there are 24", () -> {
            NeedlePairs x = empty();
            for (int k = 1; k <= 24; k++) {
                due("sign " + k, x.say('a'), k);
            }
            due("sign 25", x.say('a'), FULL);
            due("count(7)", x.count(7), 24);
            changesNothing("say(97)", List.of(FULL_PAD), y -> y.say(97), FULL);
            changesNothing("say(33)", List.of(FULL_PAD), y -> y.say(33), FULL);
            changesNothing("say(126)", List.of(FULL_PAD), y -> y.say(126), FULL);
        });
        test("10: the first refusal that fits", () -> {
            changesNothing("say(32)", List.of(FULL_PAD), x -> x.say(32), OUTSIDE);
            changesNothing("say(127)", List.of(FULL_PAD), x -> x.say(127), OUTSIDE);
        });
    }

    private static void wipe() {
        test("11: how many signs it had: none", () -> {
            due("wipe()", empty().wipe(), 0);
            changesNothing("wipe() of none", List.of(EMPTY, TWO_NETS, BARE), NeedlePairs::wipe, 0);
        });
        test("11: how many signs it had: one, all 24; THE PAD is empty", () -> {
            NeedlePairs x = fullPad();
            due("wipe()", x.wipe(), 24);
            due("count(7)", x.count(7), 0);
            due("wipe() again", x.wipe(), 0);
            for (int k = 1; k <= 24; k++) {
                due("sign " + k + " anew", x.say('b'), k);
            }
            due("sign 25 anew", x.say('b'), FULL);
            due("wipe() of 24", x.wipe(), 24);
            x.say('!');
            due("wipe() of one", x.wipe(), 1);
        });
        test("11: what was on it is not told any longer", () -> {
            NeedlePairs x = twoNets();
            say(x, "abc");
            x.wipe();
            due("told()", x.told(), FAULT);
            say(x, "bca");
            due("told() anew", x.told(), 26);
        });
    }

    private static void told() {
        test("12: TIME of the ORDER that THE PAD tells", () -> {
            String[] orders = {"abc", "acb", "bac", "bca", "cab", "cba"};
            int[] want = {16 + 16 + 10, 16 + 6 + 10, 10 + 16 + 6, 10 + 10 + 6, 10 + 6 + 16, 10 + 10 + 16};
            for (int k = 0; k < 6; k++) {
                NeedlePairs x = twoNets();
                say(x, orders[k]);
                due(orders[k], x.told(), want[k]);
                due(orders[k] + ", THE PAD stays", x.count(7), 3);
                due(orders[k] + ", again", x.told(), want[k]);
            }
        });
        test("12: no TRIES: the empty PAD tells their ORDER, 0", () -> {
            due("told()", empty().told(), 0);
            NeedlePairs x = empty();
            x.point(0, 7, 7);
            due("one POINT, told()", x.told(), 0);
        });
        test("12: FAULT: it is none: too short, too long, a TRY twice, no TRY, no small letter", () -> {
            String[] none = {"", "a", "ab", "bc", "abca", "abcc", "abcd", "aab", "aba", "baa", "aaa", "ccc", "abd",
                "dab", "bda", "ab{", "ab`", "`ab", "ABC", "abC", "Abc", "123", "012", "ab!", "ab~", "!\"#", "ab\u0041",
                "abcabc", "abcdefghijklmnopqrstuvwx"};
            for (String text : none) {
                changesNothing("\"" + text + "\"", List.of(() -> {
                    NeedlePairs x = twoNets();
                    say(x, text);
                    return x;
                }), NeedlePairs::told, FAULT);
            }
        });
        test("12: FAULT: there are no TRIES, but a sign", () -> {
            for (int sign : new int[] {33, 96, 97, 126}) {
                NeedlePairs x = empty();
                x.say(sign);
                due("sign " + sign, x.told(), FAULT);
            }
        });
        test("12: ten TRIES: a to j, in any order, and no other letter", () -> {
            String[] orders = {"abcdefghij", "jihgfedcba", "fghijabcde"};
            for (String text : orders) {
                NeedlePairs x = full();
                x.wipe();
                say(x, text);
                due(text, x.told(), timeByTime(x, text));
            }
            for (String text : new String[] {"abcdefghi", "abcdefghik", "abcdefghii", "abcdefghijj", "abcdefghijk"}) {
                NeedlePairs x = full();
                x.wipe();
                say(x, text);
                due(text, x.told(), FAULT);
            }
        });
    }

    private static int timeByTime(NeedlePairs x, String order) {
        int sum = 0;
        int from = -1;
        for (int k = 0; k < order.length(); k++) {
            int to = order.charAt(k) - 'a';
            sum += x.time(from, to);
            from = to;
        }
        return sum;
    }

    private static void best() {
        test("13: its TIME (i = -1), its i-th TRY, from 0 on; NONE: there is none such", () -> {
            int[] want = {26, 1, 2, 0, NONE, NONE};
            for (int i = -1; i < 5; i++) {
                due("best(" + i + ")", twoNets().best(i), want[i + 1]);
            }
            due("best(greatest)", twoNets().best(Integer.MAX_VALUE), NONE);
        });
        test("13: ten TRIES: the 9th is the last", () -> {
            NeedlePairs x = full();
            int set = 0;
            for (int i = 0; i <= 9; i++) {
                set |= 1 << x.best(i);
            }
            due("each once", set, (1 << 10) - 1);
            due("best(10)", x.best(10), NONE);
            due("best(11)", x.best(11), NONE);
            due("best(41)", x.best(41), NONE);
        });
        test("13: without TRIES: TIME is 0, and there is none", () -> {
            due("best(-1)", empty().best(-1), 0);
            due("best(0)", empty().best(0), NONE);
            due("best(greatest)", empty().best(Integer.MAX_VALUE), NONE);
        });
        test("13: OUTSIDE: i is below -1", () -> {
            for (int i : new int[] {-2, -3, -33, -65537, Integer.MIN_VALUE, Integer.MIN_VALUE + 1}) {
                changesNothing("best(" + i + ")", ALL, x -> x.best(i), OUTSIDE);
            }
        });
    }

    private static void nearest() {
        test("14: its TIME (i = -1), its i-th TRY, from 0 on; NONE: there is none such", () -> {
            NeedlePairs made = twoNets();
            made.move(2, 11, 3);
            // c is 9 from the first, b 11, a 16; then a is 7 from c, b 9; then b is 16 from a.
            int[] want = {9 + 7 + 16, 2, 0, 1, NONE, NONE};
            made.near(800);
            for (int i = -1; i < 5; i++) {
                due("nearest(" + i + ")", made.nearest(i), want[i + 1]);
            }
            due("nearest(greatest)", made.nearest(Integer.MAX_VALUE), NONE);
        });
        test("14: ten TRIES: the 9th is the last", () -> {
            NeedlePairs x = full();
            int set = 0;
            for (int i = 0; i <= 9; i++) {
                set |= 1 << x.nearest(i);
            }
            due("each once", set, (1 << 10) - 1);
            due("nearest(10)", x.nearest(10), NONE);
            due("nearest(11)", x.nearest(11), NONE);
            due("nearest(41)", x.nearest(41), NONE);
        });
        test("14: without TRIES: TIME is 0, and there is none", () -> {
            due("nearest(-1)", empty().nearest(-1), 0);
            due("nearest(0)", empty().nearest(0), NONE);
            due("nearest(greatest)", empty().nearest(Integer.MAX_VALUE), NONE);
        });
        test("14: OUTSIDE: i is below -1", () -> {
            for (int i : new int[] {-2, -3, -33, -65537, Integer.MIN_VALUE, Integer.MIN_VALUE + 1}) {
                changesNothing("nearest(" + i + ")", ALL, x -> x.nearest(i), OUTSIDE);
            }
        });
    }

    // ---- promises 15 to 20: flaws

    private static void loosen() {
        test("15: how many are: from none to all 8, and back", () -> {
            NeedlePairs x = full();
            x.loosen(7, 0);
            for (int p = 0; p <= 7; p++) {
                due("loosen(" + p + ", 1)", x.loosen(p, 1), p + 1);
                due("count(4)", x.count(4), p + 1);
            }
            for (int p = 0; p <= 7; p++) {
                due("loosen(" + p + ", 0)", x.loosen(p, 0), 7 - p);
                due("of(" + p + ", 3)", x.of(p, 3), 0);
            }
        });
        test("15: is LOOSE already, is not LOOSE anyway", () -> {
            changesNothing("LOOSE again", List.of(FULL_BOARD), x -> x.loosen(7, 1), 1);
            changesNothing("not LOOSE again", List.of(FULL_BOARD), x -> x.loosen(6, 0), 1);
        });
        test("15: UNKNOWN", () -> {
            for (int p : beyond(0, 3)) {
                changesNothing("loosen(" + p + ", 1)", List.of(TWO_NETS), x -> x.loosen(p, 1), UNKNOWN);
            }
            for (int p : beyond(0, 7)) {
                changesNothing("loosen(" + p + ", 1)", List.of(FULL_BOARD), x -> x.loosen(p, 1), UNKNOWN);
                changesNothing("loosen(" + p + ", 0)", List.of(FULL_BOARD), x -> x.loosen(p, 0), UNKNOWN);
            }
            changesNothing("loosen(0, 1)", WITHOUT_POINTS, x -> x.loosen(0, 1), UNKNOWN);
            changesNothing("loosen(7, 1)", List.of(BUSY), x -> x.loosen(7, 1), UNKNOWN);
        });
        test("15: OUTSIDE", () -> {
            for (int is : beyond(0, 1)) {
                changesNothing("loosen(0, " + is + ")", WITH_POINTS, x -> x.loosen(0, is), OUTSIDE);
                changesNothing("loosen(7, " + is + ")", List.of(FULL_BOARD), x -> x.loosen(7, is), OUTSIDE);
            }
        });
        test("15: the first refusal that fits", () -> {
            changesNothing("loosen(8, 2)", ALL, x -> x.loosen(8, 2), UNKNOWN);
            changesNothing("loosen(-1, -1)", ALL, x -> x.loosen(-1, -1), UNKNOWN);
        });
    }

    private static void join() {
        test("16: how many pairs are: from none to all 6, and back", () -> {
            NeedlePairs x = empty();
            int many = 0;
            for (int one = 0; one <= 3; one++) {
                for (int other = 0; other < one; other++) {
                    many++;
                    due("join(" + one + ", " + other + ", 1)", x.join(one, other, 1), many);
                    due("count(5)", x.count(5), many);
                    due("the same pair, turned", x.join(other, one, 1), many);
                }
            }
            for (int one = 0; one <= 3; one++) {
                for (int other = 0; other < one; other++) {
                    many--;
                    due("join(" + other + ", " + one + ", 0)", x.join(other, one, 0), many);
                    due("the same pair, turned", x.join(one, other, 0), many);
                }
            }
        });
        test("16: is SHORT already, is not SHORT anyway", () -> {
            changesNothing("SHORT again", List.of(FULL_BOARD), x -> x.join(3, 0, 1), 5);
            changesNothing("not SHORT again", List.of(FULL_BOARD), x -> x.join(2, 0, 0), 5);
        });
        test("16: NETS that are ONE by way of others are not SHORT for that", () -> {
            NeedlePairs x = empty();
            x.join(0, 1, 1);
            x.join(1, 2, 1);
            due("0 with 2 is not", x.join(0, 2, 0), 2);
            due("0 with 2 is", x.join(0, 2, 1), 3);
        });
        test("16: UNKNOWN: both", () -> {
            for (int net : beyond(0, 3)) {
                for (int is = 0; is <= 1; is++) {
                    int told = is;
                    changesNothing("join(" + net + ", 0, " + is + ")", ALL, x -> x.join(net, 0, told), UNKNOWN);
                    changesNothing("join(3, " + net + ", " + is + ")", ALL, x -> x.join(3, net, told), UNKNOWN);
                }
            }
        });
        test("16: OUTSIDE: they are one", () -> {
            for (int net = 0; net <= 3; net++) {
                int told = net;
                changesNothing("join(" + net + ", " + net + ", 1)", ALL, x -> x.join(told, told, 1), OUTSIDE);
                changesNothing("join(" + net + ", " + net + ", 0)", ALL, x -> x.join(told, told, 0), OUTSIDE);
            }
        });
        test("16: OUTSIDE: is", () -> {
            for (int is : beyond(0, 1)) {
                changesNothing("join(0, 1, " + is + ")", ALL, x -> x.join(0, 1, is), OUTSIDE);
                changesNothing("join(3, 2, " + is + ")", ALL, x -> x.join(3, 2, is), OUTSIDE);
            }
        });
        test("16: the first refusal that fits", () -> {
            changesNothing("join(4, 4, 1)", ALL, x -> x.join(4, 4, 1), UNKNOWN);
            changesNothing("join(-1, -1, 0)", ALL, x -> x.join(-1, -1, 0), UNKNOWN);
            changesNothing("join(4, 0, 2)", ALL, x -> x.join(4, 0, 2), UNKNOWN);
            changesNothing("join(0, -1, -1)", ALL, x -> x.join(0, -1, -1), UNKNOWN);
            changesNothing("join(1, 1, 2)", ALL, x -> x.join(1, 1, 2), OUTSIDE);
        });
    }

    private static void sees() {
        test("17: no TRIES, or none that SEES: the empty set", () -> {
            due("no TRIES", empty().sees(), 0);
            due("no POINTS, SHORT NETS", bare().sees(), 0);
            due("no FLAW", twoNets().sees(), 0);
        });
        test("17: all ten TRIES SEE", () -> {
            NeedlePairs x = empty();
            for (int net = 0; net <= 3; net++) {
                x.point(net, 10 + net % 2, 10 + net / 2);
            }
            for (int net = 0; net <= 3; net++) {
                x.point(net, 10 + net % 2, 10 + net / 2);
                x.loosen(4 + net, 1);
            }
            for (int net = 1; net <= 3; net++) {
                x.join(0, net, 1);
            }
            // Each TREE has a LOOSE POINT, each PAIR is of the first, whole POINTS of its NETS.
            due("sees()", x.sees(), 1023);
            due("it is told again", x.sees(), 1023);
            for (int t = 0; t < 10; t++) {
                due("attempt(" + t + ", 4)", x.attempt(t, 4), 1);
            }
        });
    }

    private static void fits() {
        test("18: how many (i = -1), the i-th, from 0 on, by rising numbers; NONE: there is none such", () -> {
            NeedlePairs x = empty();
            x.point(0, 0, 0);
            x.point(1, 20, 20);
            // No TRIES: nothing SEES, so all SINGLE FLAWS FIT.
            int[] want = {8, 0, 1, 20, 21, 22, 23, 24, 25, NONE, NONE};
            for (int i = -1; i < 10; i++) {
                due("fits(" + i + ")", x.fits(i), want[i + 1]);
            }
            due("fits(20)", x.fits(20), NONE);
            due("fits(25)", x.fits(25), NONE);
            due("fits(26)", x.fits(26), NONE);
            due("fits(greatest)", x.fits(Integer.MAX_VALUE), NONE);
        });
        test("18: NONE: i below -1, too", () -> {
            for (int i : new int[] {-2, -3, -7, -26, -65537, Integer.MIN_VALUE, Integer.MIN_VALUE + 1}) {
                changesNothing("fits(" + i + ")", ALL, x -> x.fits(i), NONE);
            }
        });
        test("18: none FITS: 0, and there is no first one", () -> {
            NeedlePairs x = twoNets();
            x.loosen(0, 1);
            x.loosen(2, 1);
            due("sees()", x.sees(), 3);
            due("fits(-1)", x.fits(-1), 0);
            due("fits(0)", x.fits(0), NONE);
            due("fits(-2)", x.fits(-2), NONE);
        });
    }

    private static void hidden() {
        test("19: how many (what = 0), the least number of such (1)", () -> {
            due("no POINTS, how many", empty().hidden(0), 6);
            due("no POINTS, the least", empty().hidden(1), 20);
            NeedlePairs x = empty();
            for (int net = 0; net <= 3; net++) {
                x.point(net, net * 6, 0);
            }
            x.near(0);
            due("no TRIES, how many", x.hidden(0), 10);
            due("no TRIES, the least", x.hidden(1), 0);
            x.near(36);
            // 0 with 1, 1 with 2, 2 with 3 are tried: 21, 22 and 24 are hidden, and each POINT that is LOOSE.
            due("a chain, how many", x.hidden(0), 7);
            due("a chain, the least", x.hidden(1), 0);
        });
        test("19: NONE", () -> {
            NeedlePairs x = full();
            due("hidden(0)", x.hidden(0), 0);
            due("hidden(1)", x.hidden(1), NONE);
        });
        test("19: each alone: what is there does not matter", () -> {
            NeedlePairs x = twoNets();
            for (int p = 0; p < 4; p++) {
                x.loosen(p, 1);
            }
            x.join(0, 1, 1);
            due("hidden(0)", x.hidden(0), 5);
            due("hidden(1)", x.hidden(1), 21);
            due("LOOSE stays", x.count(4), 4);
            due("SHORT stays", x.count(5), 1);
        });
        test("19: OUTSIDE", () -> {
            for (int what : beyond(0, 1)) {
                changesNothing("hidden(" + what + ")", ALL, x -> x.hidden(what), OUTSIDE);
            }
        });
    }

    private static void halves() {
        test("20: how many tries (what = 0), the NET that is found (1)", () -> {
            int[][] others = {{1, 2, 3}, {0, 2, 3}, {0, 1, 3}, {0, 1, 2}};
            for (int net = 0; net <= 3; net++) {
                for (int k = 0; k < 3; k++) {
                    NeedlePairs x = empty();
                    x.join(net, others[net][k], 1);
                    due("tries, " + net + " with " + others[net][k], x.halves(net, 0), k == 0 ? 2 : 3);
                    due("found, " + net + " with " + others[net][k], x.halves(net, 1), others[net][k]);
                }
            }
        });
        test("20: NONE: the last try told that it is not ONE with it", () -> {
            for (int net = 0; net <= 3; net++) {
                NeedlePairs x = empty();
                int one = net == 0 ? 1 : 0;
                int other = net == 3 ? 2 : 3;
                x.join(one, other, 1);
                due("tries, " + net, x.halves(net, 0), 3);
                due("found, " + net, x.halves(net, 1), NONE);
            }
        });
        test("20: UNKNOWN", () -> {
            for (int net : beyond(0, 3)) {
                changesNothing("halves(" + net + ", 0)", ALL, x -> x.halves(net, 0), UNKNOWN);
                changesNothing("halves(" + net + ", 1)", ALL, x -> x.halves(net, 1), UNKNOWN);
            }
        });
        test("20: OUTSIDE", () -> {
            for (int what : beyond(0, 1)) {
                changesNothing("halves(0, " + what + ")", ALL, x -> x.halves(0, what), OUTSIDE);
                changesNothing("halves(3, " + what + ")", ALL, x -> x.halves(3, what), OUTSIDE);
            }
        });
        test("20: the first refusal that fits", () -> {
            changesNothing("halves(4, 2)", ALL, x -> x.halves(4, 2), UNKNOWN);
            changesNothing("halves(-1, -1)", ALL, x -> x.halves(-1, -1), UNKNOWN);
        });
    }

    // ---- promises 21 to 23: images

    private static void image() {
        test("21: IMAGE (0, 1): 1", () -> {
            for (int k = 0; k <= 1; k++) {
                NeedlePairs x = twoNets();
                due("image(" + k + ")", x.image(k), 1);
                due("count(8)", x.count(8), 1 << k);
                due("restore of the other one", x.restore(1 - k), STATE);
                due("restore(" + k + ")", x.restore(k), 1);
            }
        });
        test("21: OUTSIDE", () -> {
            for (int k : beyond(0, 1)) {
                changesNothing("image(" + k + ")", ALL, x -> x.image(k), OUTSIDE);
            }
        });
        test("21: in place of what was kept there, and not of what is kept in the other one", () -> {
            NeedlePairs x = twoNets();
            x.image(0);
            x.image(1);
            x.near(9);
            x.loosen(0, 1);
            x.image(0);
            x.near(8);
            x.restore(1);
            due("IMAGE 1, NEAR", x.count(6), 50);
            due("IMAGE 1, LOOSE", x.count(4), 0);
            x.restore(0);
            due("IMAGE 0, NEAR", x.count(6), 9);
            due("IMAGE 0, LOOSE", x.count(4), 1);
        });
        test("21: it keeps what was, whatever comes", () -> {
            NeedlePairs x = twoNets();
            x.image(0);
            x.move(0, 9, 9);
            x.loosen(3, 1);
            x.join(1, 2, 1);
            x.near(0);
            x.pop();
            x.point(3, 1, 1);
            x.point(3, 2, 2);
            x.restore(0);
            due("all as it was", wholeLook(x).equals(wholeLook(withImage0(twoNets()))) ? 1 : 0, 1);
        });
        test("21: nothing else changes", () -> {
            NeedlePairs x = busy();
            x.image(1);
            NeedlePairs y = busy();
            StringBuilder one = new StringBuilder();
            StringBuilder other = new StringBuilder();
            look(x, one);
            look(y, other);
            due("the look of it", one.toString().equals(other.toString()) ? 1 : 0, 1);
        });
    }

    private static NeedlePairs withImage0(NeedlePairs x) {
        x.image(0);
        return x;
    }

    private static void restore() {
        test("22: OUTSIDE", () -> {
            for (int k : beyond(0, 1)) {
                changesNothing("restore(" + k + ")", ALL, x -> x.restore(k), OUTSIDE);
            }
        });
        test("22: STATE: nothing was kept in it", () -> {
            changesNothing("restore(0)", List.of(EMPTY, TWO_NETS, BUSY, FULL_PAD), x -> x.restore(0), STATE);
            changesNothing("restore(1)", List.of(EMPTY, TWO_NETS, FULL_PAD), x -> x.restore(1), STATE);
        });
        test("22: the first refusal that fits", () -> {
            changesNothing("restore(2)", List.of(EMPTY), x -> x.restore(2), OUTSIDE);
            changesNothing("restore(-1)", List.of(EMPTY), x -> x.restore(-1), OUTSIDE);
        });
        test("22: an empty board can be kept, and comes again", () -> {
            NeedlePairs x = full();
            due("restore(0)", x.restore(0), 1);
            due("POINTS", x.count(0), 0);
            due("TRIES", x.count(1), 0);
            due("NEIGHBOURS", x.count(2), 0);
            due("LOOSE", x.count(4), 0);
            due("SHORT", x.count(5), 0);
            due("NEAR", x.count(6), 50);
            due("BEST", x.best(-1), 0);
            due("the next POINT", x.point(0, 0, 0), 0);
            due("pop()", x.pop(), 0);
            due("pop() of none", x.pop(), STATE);
        });
        test("22: a full board can be kept, and comes again", () -> {
            NeedlePairs x = full();
            for (int k = 0; k < 8; k++) {
                x.pop();
            }
            due("restore(1)", x.restore(1), 1);
            due("POINTS", x.count(0), 8);
            due("TRIES", x.count(1), 10);
            due("LOOSE", x.count(4), 0);
            due("SHORT", x.count(5), 0);
            due("one more", x.point(0, 0, 0), FULL);
        });
        test("22: All but THE PAD and IMAGES", () -> {
            NeedlePairs x = busy();
            due("restore(1)", x.restore(1), 1);
            due("signs", x.count(7), 6);
            due("IMAGES", x.count(8), 2);
            due("NEAR", x.count(6), 300);
            due("LOOSE", x.count(4), 1);
            due("which is LOOSE", x.of(0, 3), 1);
            due("SHORT", x.count(5), 0);
            x.wipe();
            x.restore(1);
            due("signs, wiped", x.count(7), 0);
            x.image(0);
            x.restore(1);
            due("IMAGES, both", x.count(8), 3);
        });
        test("22: the IMAGE stays", () -> {
            NeedlePairs x = busy();
            for (int round = 0; round < 3; round++) {
                due("restore(1)", x.restore(1), 1);
                due("POINTS", x.count(0), 4);
                due("NEAR", x.count(6), 300);
                due("x of 1", x.of(1, 1), 4);
                due("LOOSE", x.count(4), 1);
                // What is done to the board after it has come again must not reach the IMAGE.
                x.near(round);
                x.move(1, 15, 15);
                x.loosen(0, 0);
                x.join(0, 3, 1);
                x.pop();
            }
        });
    }

    private static void count() {
        test("23: nothing there yet", () -> {
            int[] want = {0, 0, 0, 0, 0, 0, 50, 0, 0};
            for (int what = 0; what <= 8; what++) {
                due("count(" + what + ")", empty().count(what), want[what]);
            }
        });
        test("23: the most of each", () -> {
            NeedlePairs x = full();
            for (int p = 0; p < 8; p++) {
                x.loosen(p, 1);
            }
            x.join(0, 2, 1);
            for (int k = 0; k < 14; k++) {
                x.say('~');
            }
            int[] want = {8, 10, 6, 4, 8, 6, 800, 24, 3};
            for (int what = 0; what <= 8; what++) {
                due("count(" + what + ")", x.count(what), want[what]);
            }
        });
        test("23: each apart from the others", () -> {
            NeedlePairs x = busy();
            int[] want = {7, 6, 2, 3, 1, 1, 60, 6, 2};
            for (int what = 0; what <= 8; what++) {
                due("count(" + what + ")", x.count(what), want[what]);
            }
        });
        test("23: NETS that have POINTS (3)", () -> {
            NeedlePairs x = empty();
            int[] nets = {3, 3, 0, 2, 0, 1, 1, 3};
            int[] want = {1, 1, 2, 3, 3, 4, 4, 4};
            for (int k = 0; k < 8; k++) {
                x.point(nets[k], 5, 5);
                due("after POINT " + k, x.count(3), want[k]);
            }
            for (int k = 7; k >= 1; k--) {
                x.pop();
                due("POINTS 0 to " + (k - 1), x.count(3), want[k - 1]);
            }
            x.pop();
            due("none", x.count(3), 0);
        });
        test("23: which IMAGES are kept, a set: bits 0, 1 (8)", () -> {
            NeedlePairs x = empty();
            x.image(0);
            due("0", x.count(8), 1);
            x.image(1);
            due("0, 1", x.count(8), 3);
            NeedlePairs y = empty();
            y.image(1);
            due("1", y.count(8), 2);
            y.image(1);
            due("1, again", y.count(8), 2);
            y.image(0);
            due("1, 0", y.count(8), 3);
        });
        test("23: OUTSIDE", () -> {
            for (int what : beyond(0, 8)) {
                changesNothing("count(" + what + ")", ALL, x -> x.count(what), OUTSIDE);
            }
        });
    }

    // ---- what the document says of the whole

    private static void tellingCalls() {
        test("6 to 9: to be told changes nothing", () -> {
            onlyTells("of(2, 1)", x -> x.of(2, 1));
            onlyTells("far(1, 2)", x -> x.far(1, 2));
            onlyTells("attempt(2, 4)", x -> x.attempt(2, 4));
            onlyTells("time(0, 2)", x -> x.time(0, 2));
        });
        test("12 to 14: to be told changes nothing", () -> {
            onlyTells("told()", NeedlePairs::told);
            onlyTells("best(-1)", x -> x.best(-1));
            onlyTells("best(2)", x -> x.best(2));
            onlyTells("nearest(-1)", x -> x.nearest(-1));
            onlyTells("nearest(2)", x -> x.nearest(2));
        });
        test("17 to 20, 23: to be told changes nothing", () -> {
            onlyTells("sees()", NeedlePairs::sees);
            onlyTells("fits(-1)", x -> x.fits(-1));
            onlyTells("fits(0)", x -> x.fits(0));
            onlyTells("hidden(0)", x -> x.hidden(0));
            onlyTells("hidden(1)", x -> x.hidden(1));
            onlyTells("halves(2, 0)", x -> x.halves(2, 0));
            onlyTells("halves(2, 1)", x -> x.halves(2, 1));
            onlyTells("count(1)", x -> x.count(1));
        });
    }

    private static void lastCall() {
        test("at most 512 calls: the 512th still answers", () -> {
            NeedlePairs x = full();
            // full() takes 27 calls; each round takes 6.
            int calls = 27;
            while (calls + 6 <= 511) {
                int round = calls % 21;
                IntSupplier[] six = {() -> x.move(0, round, 0), () -> x.best(-1), () -> x.nearest(9), () -> x.image(0),
                    () -> x.restore(1), x::sees};
                for (IntSupplier one : six) {
                    one.getAsInt();
                }
                calls += 6;
            }
            while (calls < 511) {
                x.told();
                calls++;
            }
            due("best(-1)", x.best(-1), full().best(-1));
        });
    }
}
