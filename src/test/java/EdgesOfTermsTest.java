import java.util.ArrayList;
import java.util.List;

/**
 * The document's 'Terms', sentence by sentence, each at its edges: ties, the first that does not count any longer,
 * none, one and the most.
 *
 * An object is good for 512 calls; no test here makes more on one object.
 */
public final class EdgesOfTermsTest {
    private static final int UNKNOWN = -1;
    private static final int OUTSIDE = -2;
    private static final int NONE = -6;
    private static final int FAULT = -7;
    private static final int[][] NET_PAIRS = {{0, 1}, {0, 2}, {0, 3}, {1, 2}, {1, 3}, {2, 3}};
    private static int wrong = 0;
    private static int tests = 0;
    private static String sentence = "";

    public static void main(String[] args) {
        refusals();
        asThingsAre();
        sets();
        points();
        farAndNear();
        trees();
        neighbours();
        numbersOfTries();
        leftAndRight();
        times();
        orders();
        bestOrders();
        nearestOrders();
        looseAndShort();
        conductsAndSees();
        singleFlaws();
        halves();
        System.out.println(tests + " sentences; " + (wrong == 0 ? "all hold" : wrong + " answers are not as due"));
        if (wrong != 0) {
            System.exit(1);
        }
    }

    // ---- how a sentence is tested

    private static void test(String named, Runnable body) {
        sentence = named;
        tests++;
        try {
            body.run();
        } catch (RuntimeException thrown) {
            wrong++;
            System.out.println(sentence + ": it threw " + thrown);
        }
    }

    private static void due(String call, int got, int want) {
        if (got != want) {
            wrong++;
            System.out.println(sentence + ": " + call + " answered " + got + ", due is " + want);
        }
    }

    /** A new object with POINTS, each told by its NET, x, y. */
    private static NeedlePairs board(int... told) {
        NeedlePairs x = new NeedlePairs();
        for (int k = 0; k + 2 < told.length; k += 3) {
            x.point(told[k], told[k + 1], told[k + 2]);
        }
        return x;
    }

    /** The TRIES as they are due: LEFT and RIGHT of the first, of the second, and so on. */
    private static void dueTries(String what, NeedlePairs x, int... want) {
        due(what + ", how many", x.count(1), want.length / 2);
        for (int t = 0; t < want.length / 2; t++) {
            due(what + ", LEFT of " + t, x.attempt(t, 0), want[2 * t]);
            due(what + ", RIGHT of " + t, x.attempt(t, 1), want[2 * t + 1]);
        }
    }

    /** TRIES: a = 0-1, b = 2-3 and, between the NETS, c = 1-2. */
    private static NeedlePairs twoNets() {
        return board(0, 0, 0, 0, 4, 0, 1, 10, 3, 1, 20, 3);
    }

    /** A POINT of each NET, at the corners of a square; all six PAIRS are tried. */
    private static NeedlePairs fourNets() {
        return board(0, 5, 5, 1, 6, 5, 2, 5, 6, 3, 6, 6);
    }

    private static NeedlePairs tenTries() {
        NeedlePairs x = board(0, 3, 1, 1, 10, 6, 2, 17, 11, 3, 3, 16, 0, 10, 0, 1, 17, 5, 2, 3, 10, 3, 10, 15);
        x.near(800);
        return x;
    }

    private static void say(NeedlePairs x, String text) {
        x.wipe();
        for (int k = 0; k < text.length(); k++) {
            x.say(text.charAt(k));
        }
    }

    // ---- how calls are answered

    private static void refusals() {
        test("NONE is answered only where no refusal fits", () -> {
            NeedlePairs x = new NeedlePairs();
            due("best(-2)", x.best(-2), OUTSIDE);
            due("best(0)", x.best(0), NONE);
            due("nearest(-2)", x.nearest(-2), OUTSIDE);
            due("nearest(0)", x.nearest(0), NONE);
            due("halves(4, 1)", x.halves(4, 1), UNKNOWN);
            due("halves(0, 2)", x.halves(0, 2), OUTSIDE);
            due("halves(0, 1)", x.halves(0, 1), NONE);
            NeedlePairs y = tenTries();
            due("hidden(2)", y.hidden(2), OUTSIDE);
            due("hidden(-1)", y.hidden(-1), OUTSIDE);
            due("hidden(1)", y.hidden(1), NONE);
        });
    }

    private static void asThingsAre() {
        test("All that is told is as things are when it is asked: after point", () -> {
            NeedlePairs x = board(0, 0, 0, 0, 4, 0);
            dueAll(x, 1, 16, 16, 0, 5 + 1);
            x.point(1, 10, 3);
            dueAll(x, 2, 10 + 6, 10 + 6, 0, 5 + 1);
            x.point(1, 20, 3);
            dueAll(x, 3, 26, 26, 0, 5);
        });
        test("All that is told is as things are when it is asked: after pop", () -> {
            NeedlePairs x = twoNets();
            dueAll(x, 3, 26, 26, 0, 5);
            x.pop();
            dueAll(x, 2, 16, 16, 0, 6);
            x.pop();
            dueAll(x, 1, 16, 16, 0, 6);
            x.pop();
            dueAll(x, 0, 0, 0, 0, 7);
            x.pop();
            dueAll(x, 0, 0, 0, 0, 6);
        });
        test("All that is told is as things are when it is asked: after move", () -> {
            NeedlePairs x = twoNets();
            dueAll(x, 3, 26, 26, 0, 5);
            x.move(2, 10, 19);
            // c is gone; b is 19 from the first, a 16, and each 16 from the other one, in y and in x.
            dueAll(x, 2, 16 + 19, 16 + 19, 0, 6);
            x.move(2, 10, 3);
            dueAll(x, 3, 26, 26, 0, 5);
        });
        test("All that is told is as things are when it is asked: after near", () -> {
            NeedlePairs x = twoNets();
            dueAll(x, 3, 26, 26, 0, 5);
            x.near(44);
            dueAll(x, 2, 26, 26, 0, 6);
            x.near(45);
            dueAll(x, 3, 26, 26, 0, 5);
        });
        test("All that is told is as things are when it is asked: after restore", () -> {
            NeedlePairs x = twoNets();
            x.image(0);
            x.near(44);
            x.pop();
            dueAll(x, 1, 16, 16, 0, 7);
            x.restore(0);
            dueAll(x, 3, 26, 26, 0, 5);
        });
        test("All that is told is as things are when it is asked: after loosen, join", () -> {
            NeedlePairs x = twoNets();
            dueAll(x, 3, 26, 26, 0, 5);
            x.loosen(0, 1);
            dueAll(x, 3, 26, 26, 1, 5);
            x.join(0, 1, 1);
            dueAll(x, 3, 26, 26, 5, 5);
            x.loosen(0, 0);
            dueAll(x, 3, 26, 26, 4, 5);
            x.join(0, 1, 0);
            dueAll(x, 3, 26, 26, 0, 5);
        });
        test("All that is told is as things are when it is asked: THE PAD tells an ORDER of the TRIES of now", () -> {
            NeedlePairs x = twoNets();
            say(x, "ba");
            due("three TRIES", x.told(), FAULT);
            x.near(0);
            due("two TRIES", x.told(), 10 + 16);
            x.move(2, 12, 3);
            due("two TRIES, moved", x.told(), 12 + 16);
            x.near(800);
            due("three TRIES again", x.told(), FAULT);
        });
    }

    private static void dueAll(NeedlePairs x, int tries, int best, int nearest, int seen, int hidden) {
        String now = "with " + x.count(0) + " POINTS, ";
        due(now + "TRIES", x.count(1), tries);
        due(now + "BEST", x.best(-1), best);
        due(now + "last of BEST", x.best(tries), NONE);
        due(now + "NEAREST", x.nearest(-1), nearest);
        due(now + "last of NEAREST", x.nearest(tries), NONE);
        due(now + "SEES", x.sees(), seen);
        due(now + "hidden", x.hidden(0), hidden);
        if (seen == 0) {
            due(now + "FITS", x.fits(-1), hidden);
        }
    }

    private static void sets() {
        test("Sets are numbers: bit k tells whether k is in it", () -> {
            NeedlePairs line = new NeedlePairs();
            for (int k = 0; k < 8; k++) {
                line.point(0, 2 * k, 0);
            }
            line.loosen(0, 1);
            due("TRY 0 SEES", line.sees(), 1);
            line.loosen(0, 0);
            line.loosen(7, 1);
            due("TRY 6 SEES", line.sees(), 64);
            NeedlePairs x = tenTries();
            x.join(2, 3, 1);
            due("TRY 9 SEES", x.sees(), 512);
            x.image(1);
            due("IMAGE 1 is kept", x.count(8), 2);
        });
    }

    // ---- 1

    private static void points() {
        test("POINTS, up to 8, are numbered from 0 on as they are told", () -> {
            NeedlePairs x = new NeedlePairs();
            for (int k = 0; k < 8; k++) {
                due("POINT " + k, x.point(3 - k % 4, 20 - k, k), k);
            }
            due("a ninth", x.point(0, 0, 0), -4);
            due("two go", x.pop() + x.pop(), 7 + 6);
            due("POINT 6 again", x.point(1, 2, 3), 6);
            due("its x", x.of(6, 1), 2);
            due("the one before stays", x.of(5, 1), 15);
        });
        test("two of them may lie at one place", () -> {
            NeedlePairs x = board(0, 5, 5, 0, 5, 5, 1, 5, 5);
            due("POINTS", x.count(0), 3);
            due("FAR in one NET", x.far(0, 1), 0);
            due("FAR in two NETS", x.far(1, 2), 0);
            dueTries("TRIES", x, 0, 1, 0, 2);
            due("moved to one place", x.move(2, 9, 9), 110);
            due("moved to one place again", x.move(2, 5, 5), 198);
            due("FAR", x.far(0, 2), 0);
        });
    }

    private static void farAndNear() {
        test("FAR: in x, multiplied by itself, and in y likewise, added", () -> {
            NeedlePairs x = board(0, 0, 0, 1, 20, 20, 2, 0, 20, 3, 20, 0, 0, 1, 0, 1, 0, 1, 2, 7, 4);
            due("corner to corner", x.far(0, 1), 800);
            due("the other corners", x.far(2, 3), 800);
            due("along y", x.far(0, 2), 400);
            due("along x", x.far(0, 3), 400);
            due("1 in x", x.far(0, 4), 1);
            due("1 in y", x.far(5, 0), 1);
            due("1 in both", x.far(4, 5), 2);
            due("7 and 4", x.far(0, 6), 65);
            due("7 and 16", x.far(6, 2), 49 + 256);
        });
        test("NEAR is 0 to 800 (50 at first)", () -> {
            due("at first", new NeedlePairs().count(6), 50);
            due("FAR is 50", board(0, 3, 3, 1, 8, 8).count(2), 1);
            due("FAR is 50, by 1 and 7", board(0, 3, 3, 1, 4, 10).count(2), 1);
            due("FAR is 52", board(0, 3, 3, 1, 7, 9).count(2), 0);
        });
    }

    private static void trees() {
        test("TREE: as few as join all", () -> {
            NeedlePairs x = new NeedlePairs();
            for (int k = 0; k < 8; k++) {
                x.point(2, (5 * k) % 8, (3 * k) % 7);
                due("of " + (k + 1) + " POINTS", x.count(1), k);
                due("none is of NEIGHBOURS", x.count(2), 0);
            }
        });
        test("TREE: A NET of one POINT or none has no pairs", () -> {
            NeedlePairs x = board(0, 0, 0, 1, 20, 0, 3, 0, 20);
            due("three NETS of one POINT", x.count(1), 0);
            x.point(3, 20, 20);
            dueTries("one NET of two POINTS", x, 2, 3);
        });
        test("TREE: that pair that is least FAR", () -> {
            dueTries("the first is farther", board(0, 0, 0, 0, 9, 0, 0, 5, 0), 0, 2, 2, 1);
            // 0-1 is FAR by 100, 0-2 by 98, 1-2 by 2.
            dueTries("by 98, not by 100", board(0, 10, 0, 0, 4, 8, 0, 3, 7), 2, 0, 2, 1);
        });
        test("TREE: of such the pair of the least lesser POINT", () ->
            // 0-1 and 2-3 are FAR by 4, then both 0-3 and 1-2 by 25; 1-2 has the lesser greater POINT.
            dueTries("0-3, not 1-2", board(0, 0, 0, 0, 0, 2, 0, 5, 2, 0, 5, 0), 0, 1, 0, 3, 2, 3));
        test("TREE: of such of the least greater one", () ->
            dueTries("0-1, not 0-2", board(0, 5, 1, 0, 0, 0, 0, 0, 2), 1, 0, 1, 2));
        test("TREE: that joins two that are not joined, by way of others, as yet", () -> {
            dueTries("0-2 is joined by way of 1", board(0, 0, 0, 0, 1, 0, 0, 2, 0), 0, 1, 1, 2);
            // A ring of FAR 4: 0-2, 0-3, 1-2 join all, 1-3 would close it.
            dueTries("a ring", board(0, 0, 0, 0, 2, 2, 0, 0, 2, 0, 2, 0), 0, 2, 0, 3, 2, 1);
            // 0-2, then 1-2: 0 and 1 are joined by way of 2, so 1-3 comes, which is farther than 0-1.
            dueTries("the least POINT joined first", board(0, 0, 0, 0, 3, 0, 0, 1, 0, 0, 20, 20), 0, 2, 2, 1, 1, 3);
            dueTries("the same beside another NET", board(0, 0, 0, 0, 3, 0, 0, 1, 0, 3, 20, 20), 0, 2, 2, 1);
        });
        test("TREE: POINTS at one place are joined first, by the least POINT", () -> {
            dueTries("all at one place", board(1, 7, 7, 1, 7, 7, 1, 7, 7, 1, 7, 7), 0, 1, 0, 2, 0, 3);
            dueTries("two places", board(1, 7, 7, 1, 8, 7, 1, 7, 7, 1, 8, 7), 0, 1, 0, 2, 1, 3);
        });
        test("TREE: POINTS of other NETS do not join", () ->
            dueTries("another NET between", board(0, 0, 0, 1, 10, 0, 0, 20, 0), 0, 2));
        test("TREE: NEAR does not matter", () -> {
            NeedlePairs x = board(0, 0, 0, 0, 20, 20);
            x.near(0);
            dueTries("NEAR is 0", x, 0, 1);
        });
    }

    private static void neighbours() {
        test("NEIGHBOURS: FAR by NEAR or less", () -> {
            int[][] places = {{0, 0, 0}, {1, 0, 1}, {1, 1, 2}, {5, 5, 50}, {20, 0, 400}, {20, 19, 761}, {20, 20, 800}};
            for (int[] place : places) {
                NeedlePairs x = board(2, 0, 0, 3, place[0], place[1]);
                x.near(place[2]);
                due("FAR is NEAR, " + place[2], x.count(2), 1);
                if (place[2] > 0) {
                    x.near(place[2] - 1);
                    due("NEAR is one less than " + place[2], x.count(2), 0);
                }
                if (place[2] < 800) {
                    x.near(place[2] + 1);
                    due("NEAR is one more than " + place[2], x.count(2), 1);
                }
            }
        });
        test("NEIGHBOURS: some POINT of the one and some of the other one", () -> {
            NeedlePairs x = board(0, 0, 0, 1, 20, 20, 0, 10, 10, 1, 10, 11);
            dueTries("the last ones alone are", x, 0, 2, 3, 1, 2, 3);
            due("NETS without POINTS are not", x.count(2), 1);
        });
        test("PAIR: that of these that is least FAR", () -> {
            dueTries("the last is least FAR", board(0, 0, 0, 0, 3, 0, 1, 8, 0, 1, 7, 0), 0, 1, 3, 2, 1, 3);
            dueTries("the first is least FAR", board(0, 3, 0, 0, 0, 0, 1, 7, 0, 1, 8, 0), 1, 0, 2, 3, 0, 2);
        });
        test("PAIR: of such that of the least POINT of the lesser NET", () ->
            // 2-1 and 3-0 are FAR by 9: 2 is the least of NET 0, though 0 is the least of all.
            dueTries("2-1, not 3-0", board(1, 3, 10, 1, 3, 0, 0, 0, 0, 0, 0, 10), 2, 3, 0, 1, 2, 1));
        test("PAIR: of such of the least POINT of the greater one", () -> {
            dueTries("2-0, not 2-1", board(1, 5, 7, 1, 5, 3, 0, 5, 5), 0, 1, 0, 2);
            dueTries("0-1, not 0-2", board(0, 5, 5, 1, 5, 7, 1, 5, 3), 1, 2, 0, 1);
        });
        test("PAIR: one of two NETS, however many POINTS are near", () ->
            due("all at one place", board(0, 5, 5, 1, 5, 5, 0, 5, 5, 1, 5, 5, 0, 5, 5).count(2), 1));
    }

    private static void numbersOfTries() {
        test("TRIES: none, and the most", () -> {
            due("no POINTS", new NeedlePairs().count(1), 0);
            due("one POINT", board(3, 1, 1).count(1), 0);
            due("ten", tenTries().count(1), 10);
            due("six of these of NEIGHBOURS", tenTries().count(2), 6);
        });
        test("TRIES: first the pairs of the TREES, then PAIRS of NEIGHBOURS", () -> {
            NeedlePairs x = tenTries();
            for (int t = 0; t < 10; t++) {
                due("whether " + t + " is of NEIGHBOURS", x.attempt(t, 2), t < 4 ? 0 : 1);
            }
        });
        test("TRIES: the pairs of the TREES, by NETS", () ->
            dueTries("NETS falling", board(3, 0, 0, 2, 0, 8, 3, 1, 0, 2, 1, 8, 0, 9, 20, 0, 10, 20),
                4, 5, 1, 3, 0, 2));
        test("TRIES: then by their lesser POINTS, then by their greater ones, not as they were joined", () -> {
            // 0-2 and 1-3 are joined first, then 1-2.
            dueTries("by the lesser", board(0, 0, 0, 0, 10, 0, 0, 1, 0, 0, 10, 1), 0, 2, 2, 1, 1, 3);
            // 0-3 is joined first, then 0-2, then 0-1.
            dueTries("by the greater", board(0, 5, 5, 0, 5, 8, 0, 5, 3, 0, 6, 5), 0, 1, 0, 2, 0, 3);
        });
        test("TRIES: PAIRS of NEIGHBOURS, by the lesser NETS, then by the greater ones", () ->
            dueTries("NETS falling", board(3, 0, 0, 2, 1, 0, 1, 2, 0, 0, 3, 0),
                2, 3, 1, 3, 0, 3, 1, 2, 0, 2, 0, 1));
        test("TRIES: those that are not NEIGHBOURS are left out, the next ones take the numbers", () -> {
            NeedlePairs x = board(0, 0, 0, 1, 4, 0, 2, 8, 0, 3, 12, 0);
            x.near(16);
            dueTries("a chain", x, 0, 1, 1, 2, 2, 3);
        });
    }

    private static void leftAndRight() {
        test("LEFT: that with the lesser x", () -> {
            dueTries("by 1, of a TREE", board(0, 10, 0, 0, 9, 20), 1, 0);
            dueTries("by 1, turned", board(0, 9, 20, 0, 10, 0), 0, 1);
            dueTries("by 20", board(0, 20, 0, 0, 0, 0), 1, 0);
            dueTries("by 1, of NEIGHBOURS", board(0, 10, 0, 1, 9, 2), 1, 0);
            dueTries("by 1, of NEIGHBOURS, turned", board(1, 9, 2, 0, 10, 0), 0, 1);
        });
        test("LEFT: of one x that with the lesser number; the RIGHT one: the other one", () -> {
            dueTries("of a TREE", board(0, 9, 20, 0, 9, 0), 0, 1);
            dueTries("of NEIGHBOURS", board(0, 9, 2, 1, 9, 0), 0, 1);
            dueTries("of NEIGHBOURS, the greater NET told first", board(1, 9, 2, 0, 9, 0), 0, 1);
            dueTries("at one place", board(3, 9, 9, 2, 9, 9), 0, 1);
        });
        test("the left one never to the right of the other one", () -> {
            NeedlePairs x = tenTries();
            for (int t = 0; t < 10; t++) {
                due("TRY " + t, x.of(x.attempt(t, 0), 1) <= x.of(x.attempt(t, 1), 1) ? 1 : 0, 1);
            }
        });
    }

    // ---- 2

    private static void times() {
        test("Needles stand at (0, 0), the left one, and (20, 0), the right one, at first", () -> {
            due("both are there", board(0, 0, 0, 0, 20, 0).time(-1, 0), 0);
            due("both are there, told the other way", board(0, 20, 0, 0, 0, 0).time(-1, 0), 0);
            due("the left one in x", board(0, 7, 0, 0, 20, 0).time(-1, 0), 7);
            due("the left one in y", board(0, 0, 7, 0, 20, 0).time(-1, 0), 7);
            due("the right one in x", board(0, 0, 0, 0, 13, 0).time(-1, 0), 7);
            due("the right one in y", board(0, 0, 0, 0, 20, 7).time(-1, 0), 7);
            due("by 1", board(0, 0, 0, 0, 19, 0).time(-1, 0), 1);
            due("both at (0, 0)", board(0, 0, 0, 0, 0, 0).time(-1, 0), 20);
            due("both at (20, 0)", board(0, 20, 0, 0, 20, 0).time(-1, 0), 20);
            due("both at (20, 20)", board(0, 20, 20, 0, 20, 20).time(-1, 0), 20);
            due("both at (10, 10)", board(0, 10, 10, 0, 10, 10).time(-1, 0), 10);
        });
        test("TIME: the greatest of the left one in x, in y, the right one in x, in y", () -> {
            int[][] second = {{8, 5, 10, 5}, {5, 9, 10, 5}, {5, 5, 15, 5}, {5, 5, 10, 11}, {2, 5, 10, 5}, {5, 0, 10, 5},
                {5, 5, 6, 5}, {5, 5, 10, 2}, {6, 7, 13, 1}, {5, 5, 10, 5}};
            int[] want = {3, 4, 5, 6, 3, 5, 4, 3, 4, 0};
            for (int k = 0; k < second.length; k++) {
                int[] to = second[k];
                NeedlePairs x = board(0, 5, 5, 0, 10, 5, 1, to[0], to[1], 1, to[2], to[3]);
                due("there, " + k, x.time(0, 1), want[k]);
                due("back, " + k, x.time(1, 0), want[k]);
            }
        });
        test("TIME: needles do not change: each goes on its own POINT", () -> {
            // The LEFT POINT of a is where the RIGHT one of b is.
            NeedlePairs x = board(0, 10, 0, 0, 20, 0, 1, 0, 0, 1, 10, 0);
            due("a to b", x.time(0, 1), 10);
        });
        test("TIME: to the same TRY", () -> {
            NeedlePairs x = tenTries();
            for (int t = 0; t < 10; t++) {
                due("TRY " + t, x.time(t, t), 0);
            }
        });
        test("TIME: at most 20", () ->
            due("from side to side", board(0, 0, 0, 0, 0, 20, 1, 20, 0, 1, 20, 20).time(0, 1), 20));
    }

    private static void orders() {
        test("ORDER: TIME is 0 without TRIES", () -> {
            NeedlePairs x = board(0, 9, 9, 1, 20, 20);
            due("told()", x.told(), 0);
            due("best(-1)", x.best(-1), 0);
            due("nearest(-1)", x.nearest(-1), 0);
        });
        test("ORDER: the greatest TIME that there can be, ten TRIES of 20 each", () -> {
            // Each TRY stands on corners, no two TRIES alike, and none where needles stand at first.
            NeedlePairs x = board(0, 0, 0, 0, 20, 20, 1, 0, 20, 1, 20, 0, 2, 0, 20, 2, 0, 0, 3, 20, 0, 3, 20, 20);
            x.near(400);
            dueTries("TRIES", x, 0, 1, 2, 3, 4, 5, 6, 7, 0, 2, 0, 5, 1, 7, 2, 4, 3, 6, 4, 7);
            say(x, "jihgfedcba");
            due("told()", x.told(), 200);
            due("best(-1)", x.best(-1), 200);
            due("nearest(-1)", x.nearest(-1), 200);
            for (int k = 0; k < 10; k++) {
                due("best(" + k + ")", x.best(k), k);
                due("nearest(" + k + ")", x.nearest(k), k);
            }
        });
        test("ORDER: of one TRY, from where they stand at first", () -> {
            NeedlePairs x = board(0, 3, 4, 0, 9, 9);
            say(x, "a");
            due("told()", x.told(), 11);
            due("best(-1)", x.best(-1), 11);
            due("best(0)", x.best(0), 0);
            due("best(1)", x.best(1), NONE);
            due("nearest(-1)", x.nearest(-1), 11);
            due("nearest(0)", x.nearest(0), 0);
            due("nearest(1)", x.nearest(1), NONE);
        });
        test("ORDER: As a text: small letters, a for TRY 0 and so on", () -> {
            NeedlePairs x = board(0, 3, 4, 0, 9, 9);
            for (int sign = 33; sign <= 126; sign++) {
                x.wipe();
                x.say(sign);
                due("sign " + sign, x.told(), sign == 'a' ? 11 : FAULT);
            }
        });
        test("ORDER: the last of ten is j", () -> {
            NeedlePairs x = tenTries();
            for (int sign = 33; sign <= 126; sign++) {
                say(x, "bcdefghia");
                x.say(sign);
                due("sign " + sign, x.told() == FAULT ? 1 : 0, sign == 'j' ? 0 : 1);
                if (sign % 30 == 0) {
                    x = tenTries();
                }
            }
        });
        test("ORDER: tells all TRIES, each once", () -> {
            NeedlePairs x = twoNets();
            int faults = 0;
            for (int k = 0; k < 27; k++) {
                String text = "" + (char) ('a' + k / 9) + (char) ('a' + k / 3 % 3) + (char) ('a' + k % 3);
                say(x, text);
                faults += x.told() == FAULT ? 1 : 0;
            }
            due("27 texts of a, b, c that are none", faults, 27 - 6);
        });
    }

    private static void bestOrders() {
        test("BEST: the ORDER of the least TIME, not always the nearest first", () -> {
            // c is 9 from the first, b 11, a 16; a is 7 from c, b 9 from c, 16 from a.
            NeedlePairs x = twoNets();
            x.near(800);
            x.move(2, 11, 3);
            due("bca, TIME", x.best(-1), 11 + 9 + 7);
            due("bca, first", x.best(0), 1);
            due("bca, second", x.best(1), 2);
            due("bca, third", x.best(2), 0);
            due("NEAREST is cab", x.nearest(-1), 9 + 7 + 16);
        });
        test("BEST: of such that which has at the first place at which they differ the lesser TRY", () -> {
            NeedlePairs same = new NeedlePairs();
            for (int k = 0; k < 8; k++) {
                same.point(k % 4, 7, 7);
            }
            due("all at one place, TIME", same.best(-1), 13);
            for (int k = 0; k < 10; k++) {
                due("all at one place, " + k, same.best(k), k);
            }
            // From the first a and b are 10, and 10 from one another: ab and ba take 20.
            NeedlePairs two = board(0, 0, 10, 0, 20, 0, 1, 0, 0, 1, 20, 10);
            two.near(0);
            due("ab or ba, TIME", two.best(-1), 20);
            due("ab or ba, first", two.best(0), 0);
            due("ab or ba, second", two.best(1), 1);
        });
        test("BEST: the least TIME goes ahead of the lesser TRY", () -> {
            // b is 1 from the first, a 2; a is 1 from b.
            NeedlePairs x = board(0, 2, 0, 0, 20, 0, 1, 1, 0, 1, 19, 0);
            x.near(0);
            due("ba, TIME", x.best(-1), 2);
            due("ba, first", x.best(0), 1);
            due("ba, second", x.best(1), 0);
        });
        test("BEST: as all ORDERS that there are would have it", () -> {
            dueBest("two NETS", twoNets());
            dueBest("ten TRIES", tenTries());
            NeedlePairs line = new NeedlePairs();
            NeedlePairs spread = new NeedlePairs();
            NeedlePairs close = new NeedlePairs();
            for (int k = 0; k < 8; k++) {
                line.point(0, (k * 8) % 21, 0);
                spread.point(k % 2, (k * 13) % 21, (k * 11) % 21);
                close.point(k % 3, k % 3, k / 3);
            }
            dueBest("a line", line);
            dueBest("spread", spread);
            dueBest("close", close);
        });
    }

    /** Tries all ORDERS by rising texts, so that the first of the least TIME is the one that is due. */
    private static void dueBest(String what, NeedlePairs x) {
        int many = x.count(1);
        int[][] times = new int[many + 1][many];
        for (int from = -1; from < many; from++) {
            for (int to = 0; to < many; to++) {
                times[from + 1][to] = x.time(from, to);
            }
        }
        int[] order = new int[many];
        int[] best = new int[many + 1];
        best[many] = Integer.MAX_VALUE;
        goOn(times, order, 0, 0, 0, best);
        due(what + ", TIME", x.best(-1), best[many]);
        for (int k = 0; k < many; k++) {
            due(what + ", TRY " + k, x.best(k), best[k]);
        }
    }

    private static void goOn(int[][] times, int[] order, int length, int used, int time, int[] best) {
        int many = order.length;
        if (time >= best[many]) {
            return;
        }
        if (length == many) {
            System.arraycopy(order, 0, best, 0, many);
            best[many] = time;
            return;
        }
        int stand = length == 0 ? 0 : order[length - 1] + 1;
        for (int next = 0; next < many; next++) {
            if ((used >> next & 1) == 0) {
                order[length] = next;
                goOn(times, order, length + 1, used | 1 << next, time + times[stand][next], best);
            }
        }
    }

    private static void nearestOrders() {
        test("NEAREST: that to which TIME is least", () -> {
            // c is 9 from the first, b 11, a 16; from c a is 7, b 9; then b.
            NeedlePairs x = twoNets();
            x.near(800);
            x.move(2, 11, 3);
            due("TIME", x.nearest(-1), 9 + 7 + 16);
            due("first", x.nearest(0), 2);
            due("second", x.nearest(1), 0);
            due("third", x.nearest(2), 1);
        });
        test("NEAREST: of such the least", () -> {
            // From the first b and c are 10, a 16; from b c is 10, a 16.
            NeedlePairs x = twoNets();
            due("b, not c", x.nearest(0), 1);
            due("then c", x.nearest(1), 2);
            NeedlePairs same = new NeedlePairs();
            for (int k = 0; k < 8; k++) {
                same.point(k % 4, 7, 7);
            }
            due("all at one place, TIME", same.nearest(-1), 13);
            for (int k = 0; k < 10; k++) {
                due("all at one place, " + k, same.nearest(k), k);
            }
        });
        test("NEAREST: each time, of the TRIES that are left", () -> {
            NeedlePairs x = tenTries();
            int stand = -1;
            int used = 0;
            int sum = 0;
            for (int place = 0; place < 10; place++) {
                int next = -1;
                for (int t = 9; t >= 0; t--) {
                    if ((used >> t & 1) == 0 && (next < 0 || x.time(stand, t) <= x.time(stand, next))) {
                        next = t;
                    }
                }
                due("place " + place, x.nearest(place), next);
                sum += x.time(stand, next);
                stand = next;
                used |= 1 << next;
            }
            due("TIME", x.nearest(-1), sum);
        });
    }

    // ---- 3

    private static void looseAndShort() {
        test("POINTS are LOOSE, or not (none is, as it is told)", () -> {
            NeedlePairs x = board(0, 0, 0, 0, 4, 0);
            x.image(0);
            for (int p = 2; p < 8; p++) {
                x.point(0, p, 9);
                due("POINT " + p, x.of(p, 3), 0);
                due("how many", x.count(4), p - 2);
                x.loosen(p, 1);
            }
            x.restore(0);
            for (int p = 2; p < 8; p++) {
                due("POINT " + p + " told after restore", x.point(1, p, 9), p);
                due("POINT " + p + " is not LOOSE", x.of(p, 3), 0);
            }
            due("none is", x.count(4), 0);
        });
        test("Pairs of NETS are SHORT, or not (none is at first)", () -> {
            NeedlePairs x = fourNets();
            due("at first", x.count(5), 0);
            due("no TRY SEES one", x.sees(), 0);
            for (int net = 0; net < 4; net++) {
                due("none with " + net, x.halves(net, 1), NONE);
            }
        });
        test("NETS are ONE, if they are SHORT, by way of others, too", () -> {
            for (int set = 0; set < 64; set++) {
                NeedlePairs x = fourNets();
                for (int pair = 0; pair < 6; pair++) {
                    x.join(NET_PAIRS[pair][1], NET_PAIRS[pair][0], set >> pair & 1);
                }
                due("SHORT pairs " + set, x.sees(), onePairs(set));
                due("SHORT pairs " + set + ", how many", x.count(5), Integer.bitCount(set));
            }
        });
        test("NETS are ONE by way of NETS without POINTS, too", () -> {
            NeedlePairs x = board(0, 5, 5, 3, 6, 5);
            x.join(0, 1, 1);
            x.join(2, 3, 1);
            due("not as yet", x.attempt(0, 3), 0);
            x.join(1, 2, 1);
            due("by way of 1 and 2", x.attempt(0, 3), 1);
            x.join(0, 1, 0);
            due("no longer", x.attempt(0, 3), 0);
        });
        test("NETS are ONE (each with itself)", () -> {
            for (int net = 0; net < 4; net++) {
                due("NET " + net, board(net, 0, 0, net, 1, 1).attempt(0, 3), 1);
            }
        });
    }

    /** The set of pairs of NETS that are ONE, worked out by names that spread. */
    private static int onePairs(int shortPairs) {
        int[] name = {0, 1, 2, 3};
        for (int again = 0; again < 4; again++) {
            for (int pair = 0; pair < 6; pair++) {
                if ((shortPairs >> pair & 1) == 1) {
                    int least = Math.min(name[NET_PAIRS[pair][0]], name[NET_PAIRS[pair][1]]);
                    name[NET_PAIRS[pair][0]] = least;
                    name[NET_PAIRS[pair][1]] = least;
                }
            }
        }
        int found = 0;
        for (int pair = 0; pair < 6; pair++) {
            found |= name[NET_PAIRS[pair][0]] == name[NET_PAIRS[pair][1]] ? 1 << pair : 0;
        }
        return found;
    }

    private static void conductsAndSees() {
        test("A TRY of a TREE CONDUCTS, if neither of its POINTS is LOOSE, else it SEES a FLAW", () -> {
            for (int set = 0; set < 4; set++) {
                NeedlePairs x = board(2, 9, 0, 2, 3, 0);
                x.loosen(0, set & 1);
                x.loosen(1, set >> 1);
                due("LOOSE " + set + ", CONDUCTS", x.attempt(0, 3), set == 0 ? 1 : 0);
                due("LOOSE " + set + ", SEES", x.attempt(0, 4), set == 0 ? 0 : 1);
                due("LOOSE " + set + ", set", x.sees(), set == 0 ? 0 : 1);
                x.join(2, 0, 1);
                due("LOOSE " + set + ", SHORT does not matter", x.sees(), set == 0 ? 0 : 1);
            }
        });
        test("A TRY of NEIGHBOURS CONDUCTS, if neither is LOOSE, and NETS are ONE; then it SEES a FLAW", () -> {
            for (int set = 0; set < 8; set++) {
                NeedlePairs x = board(2, 5, 0, 1, 3, 0);
                x.loosen(0, set & 1);
                x.loosen(1, set >> 1 & 1);
                x.join(1, 2, set >> 2);
                int want = set == 4 ? 1 : 0;
                due("case " + set + ", CONDUCTS", x.attempt(0, 3), want);
                due("case " + set + ", SEES", x.attempt(0, 4), want);
                due("case " + set + ", set", x.sees(), want);
            }
        });
        test("LOOSE POINTS of no TRY, SHORT NETS of no TRY are not seen", () -> {
            NeedlePairs x = board(0, 0, 0, 0, 1, 0, 1, 20, 20);
            x.loosen(2, 1);
            x.join(0, 1, 1);
            x.join(0, 3, 1);
            due("sees()", x.sees(), 0);
        });
    }

    private static void singleFlaws() {
        test("SINGLE FLAWS: one POINT is LOOSE (number: the POINT), 0 to 7", () -> {
            for (int p = 0; p < 8; p++) {
                NeedlePairs x = new NeedlePairs();
                for (int k = 0; k < 8; k++) {
                    x.point(0, 2 * k, 0);
                }
                x.loosen(p, 1);
                due("how many, " + p, x.fits(-1), 1);
                due("which, " + p, x.fits(0), p);
                due("no other, " + p, x.fits(1), NONE);
            }
        });
        test("SINGLE FLAWS: one pair of NETS is SHORT (numbers 20 to 25)", () -> {
            for (int pair = 0; pair < 6; pair++) {
                NeedlePairs x = fourNets();
                x.join(NET_PAIRS[pair][0], NET_PAIRS[pair][1], 1);
                due("how many, " + pair, x.fits(-1), 1);
                due("which, " + pair, x.fits(0), 20 + pair);
                due("no other, " + pair, x.fits(1), NONE);
            }
        });
        test("SINGLE FLAWS: NETS without POINTS, too", () -> {
            NeedlePairs x = new NeedlePairs();
            due("how many", x.fits(-1), 6);
            for (int i = 0; i < 6; i++) {
                due("the " + i + "-th", x.fits(i), 20 + i);
            }
            due("no more", x.fits(6), NONE);
        });
        test("SINGLE FLAWS: POINTS that are there, and no others", () -> {
            NeedlePairs x = board(0, 0, 0, 1, 10, 0, 2, 20, 0);
            List<Integer> found = new ArrayList<>();
            for (int i = 0; i < 12; i++) {
                found.add(x.fits(i));
            }
            due("0, 1, 2, 20 to 25", found.equals(List.of(0, 1, 2, 20, 21, 22, 23, 24, 25, NONE, NONE, NONE)) ? 1 : 0,
                1);
            x.pop();
            due("one less", x.fits(-1), 8);
            due("20 follows 1", x.fits(2), 20);
        });
        test("FITS: just those TRIES SEE a FLAW that do so now: no more and no fewer", () -> {
            NeedlePairs x = board(0, 0, 0, 0, 2, 0, 0, 4, 0);
            x.loosen(0, 1);
            due("TRY 0, how many", x.fits(-1), 1);
            due("TRY 0, which", x.fits(0), 0);
            x.loosen(1, 1);
            due("both TRIES, how many", x.fits(-1), 1);
            due("both TRIES, which", x.fits(0), 1);
            x.loosen(1, 0);
            x.loosen(2, 1);
            due("both TRIES by 0 and 2, how many", x.fits(-1), 1);
            due("both TRIES by 0 and 2, which", x.fits(0), 1);
        });
        test("FITS: it alone being there", () -> {
            NeedlePairs x = twoNets();
            x.loosen(1, 1);
            x.join(0, 1, 1);
            // c is of 1 and 2, so 1 that is LOOSE hides that NETS are SHORT: a alone SEES.
            due("sees()", x.sees(), 1);
            due("how many", x.fits(-1), 2);
            due("first", x.fits(0), 0);
            due("second", x.fits(1), 1);
        });
        test("FITS: NETS that are ONE by way of others may look like one that is SHORT", () -> {
            NeedlePairs x = board(0, 5, 5, 2, 6, 5);
            x.join(0, 3, 1);
            x.join(3, 2, 1);
            due("how many", x.fits(-1), 1);
            due("which", x.fits(0), 21);
        });
    }

    private static void halves() {
        test("HALVES: of an odd number the lesser half; if any is ONE with it, they stay, else the other ones", () -> {
            for (int net = 0; net < 4; net++) {
                for (int set = 0; set < 8; set++) {
                    dueHalves(net, set);
                }
            }
        });
        test("HALVES: ONE by way of others, too", () -> {
            NeedlePairs x = new NeedlePairs();
            x.join(3, 2, 1);
            x.join(2, 1, 1);
            due("3, tries", x.halves(3, 0), 3);
            due("3, found", x.halves(3, 1), 1);
            due("0, tries", x.halves(0, 0), 3);
            due("0, found", x.halves(0, 1), NONE);
            x.join(1, 0, 1);
            due("3 with all, tries", x.halves(3, 0), 2);
            due("3 with all, found", x.halves(3, 1), 0);
            due("0 with all, tries", x.halves(0, 0), 2);
            due("0 with all, found", x.halves(0, 1), 1);
        });
        test("HALVES: of all others, whether they have POINTS or not", () -> {
            NeedlePairs x = fourNets();
            x.join(1, 3, 1);
            due("with POINTS, tries", x.halves(1, 0), 3);
            due("with POINTS, found", x.halves(1, 1), 3);
            for (int k = 0; k < 4; k++) {
                x.pop();
                due("with fewer, tries", x.halves(1, 0), 3);
                due("with fewer, found", x.halves(1, 1), 3);
            }
        });
        test("HALVES: LOOSE POINTS do not matter", () -> {
            NeedlePairs x = fourNets();
            x.join(0, 1, 1);
            for (int p = 0; p < 4; p++) {
                x.loosen(p, 1);
            }
            due("tries", x.halves(0, 0), 2);
            due("found", x.halves(0, 1), 1);
        });
    }

    /** Bit k of the set: the NET is SHORT with the k-th of the three others. */
    private static void dueHalves(int net, int set) {
        NeedlePairs x = new NeedlePairs();
        int[] others = new int[3];
        for (int k = 0; k < 3; k++) {
            others[k] = k < net ? k : k + 1;
            x.join(net, others[k], set >> k & 1);
        }
        // The first alone is tried: then it once more, or of the other two the first, then the one that is left.
        int tries = (set & 1) == 1 ? 2 : 3;
        int found = set == 0 ? NONE : others[Integer.numberOfTrailingZeros(set)];
        due("NET " + net + ", set " + set + ", tries", x.halves(net, 0), tries);
        due("NET " + net + ", set " + set + ", found", x.halves(net, 1), found);
    }
}
