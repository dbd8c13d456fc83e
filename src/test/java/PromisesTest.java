/** For each promise: ordinary inputs, the edges that the document names, and wrong inputs, worked out by hand. */
public final class PromisesTest {
    private static final int MIN = Integer.MIN_VALUE;
    private static final int MAX = Integer.MAX_VALUE;
    private static int wrong = 0;

    private static void due(String call, int got, int want) {
        if (got != want) {
            wrong++;
            System.out.println(call + " answered " + got + ", due is " + want);
        }
    }

    public static void main(String[] args) {
        newObject();
        point();
        pop();
        move();
        near();
        of();
        far();
        attempt();
        tiesOfTrees();
        tiesOfNeighbours();
        time();
        say();
        wipe();
        told();
        best();
        nearest();
        loosen();
        join();
        sees();
        fits();
        hidden();
        halves();
        image();
        restore();
        count();
        System.out.println(wrong == 0 ? "all promises hold" : wrong + " answers are not as due");
        if (wrong != 0) {
            System.exit(1);
        }
    }

    /** POINTS of two NETS with three TRIES: a = 0-1, b = 2-3 and, between the NETS, c = 1-2. */
    private static NeedlePairs twoNets() {
        NeedlePairs x = new NeedlePairs();
        x.point(0, 0, 0);
        x.point(0, 4, 0);
        x.point(1, 10, 3);
        x.point(1, 20, 3);
        return x;
    }

    /** All four NETS at the corners of a square of side 1, two POINTS at each: 4 TRIES of TREES, 6 of NEIGHBOURS. */
    private static NeedlePairs tenTries() {
        NeedlePairs x = new NeedlePairs();
        for (int net = 0; net < 4; net++) {
            x.point(net, 10 + net % 2, 10 + net / 2);
            x.point(net, 10 + net % 2, 10 + net / 2);
        }
        return x;
    }

    private static void write(NeedlePairs x, String text) {
        x.wipe();
        for (int k = 0; k < text.length(); k++) {
            x.say(text.charAt(k));
        }
    }

    private static void newObject() {
        NeedlePairs x = new NeedlePairs();
        int[] want = {0, 0, 0, 0, 0, 0, 50, 0, 0};
        for (int what = 0; what < want.length; what++) {
            due("1: new, count(" + what + ")", x.count(what), want[what]);
        }
        due("1: restore(0)", x.restore(0), -3);
        due("1: restore(1)", x.restore(1), -3);
        due("1: sees()", x.sees(), 0);
        due("1: told()", x.told(), 0);
        NeedlePairs y = new NeedlePairs();
        x.point(0, 1, 1);
        x.say(97);
        x.image(0);
        x.near(3);
        due("1: objects are apart: points", y.count(0), 0);
        due("1: objects are apart: pad", y.count(7), 0);
        due("1: objects are apart: images", y.count(8), 0);
        due("1: objects are apart: near", y.count(6), 50);
    }

    private static void point() {
        NeedlePairs x = new NeedlePairs();
        due("2: net -1", x.point(-1, 0, 0), -1);
        due("2: net 4", x.point(4, 0, 0), -1);
        due("2: net, ahead of x", x.point(4, 21, 0), -1);
        due("2: x -1", x.point(0, -1, 0), -2);
        due("2: x 21", x.point(0, 21, 0), -2);
        due("2: y -1", x.point(0, 0, -1), -2);
        due("2: y 21", x.point(0, 0, 21), -2);
        due("2: greatest", x.point(MAX, MAX, MAX), -1);
        due("2: least", x.point(0, MIN, MIN), -2);
        due("2: refused changes nothing", x.count(0), 0);
        due("2: first", x.point(0, 0, 0), 0);
        due("2: corner", x.point(3, 20, 20), 1);
        for (int k = 2; k < 8; k++) {
            due("2: one place", x.point(1, 5, 5), k);
        }
        due("2: full", x.point(0, 0, 0), -4);
        due("2: net, ahead of full", x.point(4, 0, 0), -1);
        due("2: x, ahead of full", x.point(0, 21, 0), -2);
        due("2: still 8", x.count(0), 8);
        due("2: net kept", x.of(1, 0), 3);
        due("2: x kept", x.of(1, 1), 20);
        due("2: y kept", x.of(1, 2), 20);
    }

    private static void pop() {
        NeedlePairs x = new NeedlePairs();
        due("3: none", x.pop(), -3);
        x.point(0, 1, 1);
        x.point(0, 2, 2);
        x.loosen(1, 1);
        x.join(0, 1, 1);
        due("3: one left", x.pop(), 1);
        due("3: it is gone", x.of(1, 0), -1);
        due("3: none is LOOSE", x.count(4), 0);
        due("3: SHORT stays", x.count(5), 1);
        due("3: no TRIES", x.count(1), 0);
        due("3: told again", x.point(0, 3, 3), 1);
        due("3: told again, not LOOSE", x.of(1, 3), 0);
        x.loosen(0, 1);
        x.pop();
        due("3: another one stays LOOSE", x.count(4), 1);
        due("3: none left", x.pop(), 0);
        due("3: none again", x.pop(), -3);
    }

    private static void move() {
        NeedlePairs x = twoNets();
        due("4: no POINT", x.move(4, 0, 0), -1);
        due("4: below", x.move(-1, 0, 0), -1);
        due("4: least", x.move(MIN, 0, 0), -1);
        due("4: POINT, ahead of x", x.move(4, 21, 0), -1);
        due("4: x", x.move(0, 21, 0), -2);
        due("4: y", x.move(0, 0, 21), -2);
        due("4: x below", x.move(0, -1, 0), -2);
        due("4: y below", x.move(0, 0, -1), -2);
        due("4: where it was", x.move(2, 20, 19), 213);
        due("4: where it went", x.move(2, 0, 7), 439);
        due("4: x now", x.of(2, 1), 0);
        due("4: y now", x.of(2, 2), 7);
        due("4: the net stays", x.of(2, 0), 1);
        due("4: TRIES follow", x.attempt(2, 0), 0);
        due("4: TRIES follow", x.attempt(2, 1), 2);
        x.loosen(2, 1);
        x.move(2, 1, 1);
        due("4: LOOSE stays", x.of(2, 3), 1);
    }

    private static void near() {
        NeedlePairs x = twoNets();
        due("5: below", x.near(-1), -2);
        due("5: above", x.near(801), -2);
        due("5: least", x.near(MIN), -2);
        due("5: greatest", x.near(MAX), -2);
        due("5: at first", x.near(45), 50);
        due("5: just NEAR", x.count(2), 1);
        due("5: was", x.near(44), 45);
        due("5: not NEAR", x.count(2), 0);
        due("5: 0", x.near(0), 44);
        due("5: 800", x.near(800), 0);
        due("5: is", x.count(6), 800);
        NeedlePairs y = new NeedlePairs();
        y.point(0, 5, 5);
        y.point(1, 5, 5);
        y.near(0);
        due("5: one place is NEAR by 0", y.count(2), 1);
        y.move(0, 0, 0);
        y.move(1, 20, 20);
        y.near(799);
        due("5: corners by 799", y.count(2), 0);
        y.near(800);
        due("5: corners by 800", y.count(2), 1);
    }

    private static void of() {
        NeedlePairs x = twoNets();
        due("6: net", x.of(3, 0), 1);
        due("6: x", x.of(3, 1), 20);
        due("6: y", x.of(3, 2), 3);
        due("6: not LOOSE", x.of(3, 3), 0);
        x.loosen(3, 1);
        due("6: LOOSE", x.of(3, 3), 1);
        due("6: another one", x.of(2, 3), 0);
        due("6: what 4", x.of(3, 4), -2);
        due("6: what -1", x.of(3, -1), -2);
        due("6: POINT 4", x.of(4, 0), -1);
        due("6: POINT -1", x.of(-1, 0), -1);
        due("6: POINT, ahead of what", x.of(8, 9), -1);
        due("6: extremes", x.of(MAX, MIN), -1);
        due("6: what least", x.of(0, MIN), -2);
    }

    private static void far() {
        NeedlePairs x = twoNets();
        due("7: along x", x.far(0, 1), 16);
        due("7: both", x.far(1, 2), 45);
        due("7: turned", x.far(2, 1), 45);
        due("7: of one", x.far(2, 2), 0);
        due("7: one unknown", x.far(4, 0), -1);
        due("7: other unknown", x.far(0, 4), -1);
        due("7: below", x.far(-1, 0), -1);
        due("7: other below", x.far(0, -1), -1);
        due("7: extremes", x.far(MIN, MAX), -1);
        x.move(0, 0, 20);
        x.move(1, 20, 0);
        due("7: greatest", x.far(0, 1), 800);
    }

    private static void attempt() {
        NeedlePairs x = twoNets();
        int[][] want = {{0, 1, 0, 1, 0}, {2, 3, 0, 1, 0}, {1, 2, 1, 0, 0}};
        for (int t = 0; t < 3; t++) {
            for (int what = 0; what < 5; what++) {
                due("8: attempt(" + t + ", " + what + ")", x.attempt(t, what), want[t][what]);
            }
        }
        due("8: TRY 3", x.attempt(3, 0), -1);
        due("8: TRY -1", x.attempt(-1, 0), -1);
        due("8: what 5", x.attempt(0, 5), -2);
        due("8: what -1", x.attempt(0, -1), -2);
        due("8: TRY, ahead of what", x.attempt(3, 5), -1);
        due("8: extremes", x.attempt(MIN, MAX), -1);
        x.loosen(0, 1);
        due("8: LOOSE left POINT", x.attempt(0, 3), 0);
        due("8: TREE sees", x.attempt(0, 4), 1);
        x.join(1, 0, 1);
        due("8: SHORT conducts", x.attempt(2, 3), 1);
        due("8: NEIGHBOURS see", x.attempt(2, 4), 1);
        x.loosen(2, 1);
        due("8: LOOSE hides SHORT", x.attempt(2, 3), 0);
        due("8: LOOSE hides SHORT", x.attempt(2, 4), 0);
        due("8: LOOSE left POINT of another TREE", x.attempt(1, 3), 0);
        x.move(0, 4, 9);
        due("8: of one x the lesser number is left", x.attempt(0, 0), 0);
        x.move(0, 5, 9);
        due("8: the lesser x is left", x.attempt(0, 0), 1);
        due("8: the greater x is right", x.attempt(0, 1), 0);
        due("8: ten TRIES", tenTries().attempt(9, 2), 1);
        due("8: not eleven", tenTries().attempt(10, 2), -1);
    }

    private static void tiesOfTrees() {
        NeedlePairs x = new NeedlePairs();
        x.point(0, 0, 0);
        x.point(0, 2, 2);
        x.point(0, 0, 2);
        x.point(0, 2, 0);
        // All sides are FAR by 4: 0-2 and 0-3 come first, then 1-2, and 1-3 would close a ring.
        due("8: square, TRIES", x.count(1), 3);
        int[][] pairs = {{0, 2}, {0, 3}, {2, 1}};
        for (int t = 0; t < 3; t++) {
            due("8: square, left of " + t, x.attempt(t, 0), pairs[t][0]);
            due("8: square, right of " + t, x.attempt(t, 1), pairs[t][1]);
        }
        NeedlePairs y = new NeedlePairs();
        y.point(3, 0, 0);
        y.point(1, 9, 9);
        y.point(3, 20, 0);
        y.point(1, 9, 20);
        y.near(0);
        // TRIES go by NETS, ahead of POINTS; TREES do not ask for NEAR.
        due("8: by NETS, first", y.attempt(0, 0), 1);
        due("8: by NETS, second", y.attempt(1, 0), 0);
        NeedlePairs z = new NeedlePairs();
        z.point(0, 0, 0);
        z.point(0, 10, 0);
        z.point(0, 9, 0);
        z.point(0, 1, 0);
        // It joins 0-3 and 1-2 first, and these by 2-3 last, which is told last.
        due("8: two parts, TRIES", z.count(1), 3);
        due("8: two parts, last left", z.attempt(2, 0), 3);
        due("8: two parts, last right", z.attempt(2, 1), 2);
    }

    private static void tiesOfNeighbours() {
        NeedlePairs x = new NeedlePairs();
        x.point(1, 5, 6);
        x.point(1, 5, 4);
        x.point(0, 6, 5);
        x.point(0, 4, 5);
        // All four are FAR by 2: the least POINT of NET 0 is 2, of NET 1 it is 0.
        due("8: ring, TRY", x.count(2), 1);
        due("8: ring, left", x.attempt(2, 0), 0);
        due("8: ring, right", x.attempt(2, 1), 2);
        x.move(0, 5, 7);
        due("8: least FAR goes first, left", x.attempt(2, 0), 1);
        due("8: least FAR goes first, right", x.attempt(2, 1), 2);
        NeedlePairs z = new NeedlePairs();
        z.point(0, 5, 5);
        z.point(1, 5, 6);
        z.point(1, 5, 7);
        z.point(0, 7, 6);
        // 0-1 is FAR by 1, and stays ahead of all that come later: 0-2, 3-1 (4) and 3-2 (5).
        due("8: the first stays, left", z.attempt(2, 0), 0);
        due("8: the first stays, right", z.attempt(2, 1), 1);
        NeedlePairs y = new NeedlePairs();
        y.point(3, 0, 0);
        y.point(2, 1, 0);
        y.point(1, 2, 0);
        y.point(0, 3, 0);
        int[][] pairs = {{2, 3}, {1, 3}, {0, 3}, {1, 2}, {0, 2}, {0, 1}};
        for (int t = 0; t < 6; t++) {
            due("8: by NETS, left of " + t, y.attempt(t, 0), pairs[t][0]);
            due("8: by NETS, right of " + t, y.attempt(t, 1), pairs[t][1]);
        }
    }

    private static void time() {
        NeedlePairs x = twoNets();
        due("9: first to a: right one in x", x.time(-1, 0), 16);
        due("9: first to b: left one in x", x.time(-1, 1), 10);
        due("9: first to c", x.time(-1, 2), 10);
        due("9: a to b", x.time(0, 1), 16);
        due("9: b to a", x.time(1, 0), 16);
        due("9: a to c", x.time(0, 2), 6);
        due("9: to itself", x.time(2, 2), 0);
        x.move(1, 4, 19);
        due("9: first to a: right one in y", x.time(-1, 0), 19);
        x.move(0, 0, 20);
        due("9: first to a: left one in y", x.time(-1, 0), 20);
        due("9: from -2", x.time(-2, 0), -1);
        due("9: from 2, there are two", x.time(2, 0), -1);
        due("9: to 2", x.time(0, 2), -1);
        due("9: to -1", x.time(0, -1), -1);
        due("9: first to -1", x.time(-1, -1), -1);
        due("9: extremes", x.time(MAX, MIN), -1);
        due("9: least", x.time(MIN, 0), -1);
        due("9: no TRIES", new NeedlePairs().time(-1, 0), -1);
    }

    private static void say() {
        NeedlePairs x = new NeedlePairs();
        due("10: 32", x.say(32), -2);
        due("10: 127", x.say(127), -2);
        due("10: least", x.say(MIN), -2);
        due("10: greatest", x.say(MAX), -2);
        due("10: wraps as a char", x.say(65536 + 97), -2);
        due("10: 33", x.say(33), 1);
        due("10: 126", x.say(126), 2);
        for (int k = 3; k <= 24; k++) {
            due("10: more", x.say(97), k);
        }
        due("10: full", x.say(97), -4);
        due("10: OUTSIDE, ahead of full", x.say(32), -2);
        due("10: 24", x.count(7), 24);
    }

    private static void wipe() {
        NeedlePairs x = new NeedlePairs();
        due("11: empty", x.wipe(), 0);
        x.say(97);
        x.say(98);
        due("11: two", x.wipe(), 2);
        due("11: gone", x.count(7), 0);
        due("11: again", x.wipe(), 0);
        due("11: anew", x.say(99), 1);
    }

    private static void told() {
        NeedlePairs x = twoNets();
        String[] none = {"", "a", "ab", "abb", "abd", "abcc", "abca", "ABC", "ab`", "ab{", "ab!", "ab~", "aaa", "aba",
            "!bc", "dbc"};
        for (String text : none) {
            write(x, text);
            due("12: " + text, x.told(), -7);
        }
        write(x, "abc");
        due("12: abc", x.told(), 16 + 16 + 10);
        write(x, "bca");
        due("12: bca", x.told(), 10 + 10 + 6);
        x.near(0);
        due("12: TRIES are fewer", x.told(), -7);
        write(x, "ba");
        due("12: ba", x.told(), 10 + 16);
        NeedlePairs y = new NeedlePairs();
        due("12: no TRIES", y.told(), 0);
        y.say(97);
        due("12: no TRIES, a sign", y.told(), -7);
        NeedlePairs z = tenTries();
        write(z, "abcdefghij");
        due("12: ten", z.told() > 0 ? 1 : 0, 1);
        write(z, "abcdefghik");
        due("12: ten, one is wrong", z.told(), -7);
        write(z, "abcdefghijabcdefghijabcd");
        due("12: full", z.told(), -7);
    }

    private static void best() {
        NeedlePairs x = twoNets();
        // 10 + 10 + 6 for bca, 10 + 10 + 16 for cba, 10 + 6 + 16 for cab, 16 + 6 + 10 for acb.
        due("13: TIME", x.best(-1), 26);
        due("13: 0", x.best(0), 1);
        due("13: 1", x.best(1), 2);
        due("13: 2", x.best(2), 0);
        due("13: 3", x.best(3), -6);
        due("13: greatest", x.best(MAX), -6);
        due("13: -2", x.best(-2), -2);
        due("13: least", x.best(MIN), -2);
        x.near(0);
        due("13: after a change, TIME", x.best(-1), 26);
        due("13: after a change, 0", x.best(0), 1);
        due("13: after a change, 2", x.best(2), -6);
        x.pop();
        due("13: after pop, TIME", x.best(-1), 16);
        x.move(1, 20, 0);
        due("13: after move, TIME", x.best(-1), 0);
        NeedlePairs y = new NeedlePairs();
        due("13: none, TIME", y.best(-1), 0);
        due("13: none, 0", y.best(0), -6);
        NeedlePairs z = new NeedlePairs();
        for (int k = 0; k < 8; k++) {
            z.point(0, 7, 7);
        }
        // All take one TIME: the first ORDER is the one by numbers.
        due("13: ties, TIME", z.best(-1), 13);
        for (int k = 0; k < 7; k++) {
            due("13: ties, " + k, z.best(k), k);
        }
    }

    private static void nearest() {
        NeedlePairs x = twoNets();
        // b and c are 10 from the first: b is less; then c (10, a is 16), then a (6).
        due("14: TIME", x.nearest(-1), 26);
        due("14: 0", x.nearest(0), 1);
        due("14: 1", x.nearest(1), 2);
        due("14: 2", x.nearest(2), 0);
        due("14: 3", x.nearest(3), -6);
        due("14: greatest", x.nearest(MAX), -6);
        due("14: -2", x.nearest(-2), -2);
        due("14: least", x.nearest(MIN), -2);
        x.move(2, 9, 3);
        // Now b is 9 from the first and c 11: b, then c (11, a is 16), then a (5).
        due("14: after move, TIME", x.nearest(-1), 25);
        NeedlePairs y = new NeedlePairs();
        due("14: none, TIME", y.nearest(-1), 0);
        due("14: none, 0", y.nearest(0), -6);
        NeedlePairs z = new NeedlePairs();
        z.point(0, 2, 3);
        z.point(0, 8, 3);
        z.point(0, 8, 9);
        z.point(1, 9, 4);
        z.point(1, 15, 15);
        due("14: worse than BEST", z.nearest(-1) - z.best(-1), 4);
    }

    private static void loosen() {
        NeedlePairs x = twoNets();
        due("15: one", x.loosen(0, 1), 1);
        due("15: again", x.loosen(0, 1), 1);
        due("15: two", x.loosen(3, 1), 2);
        due("15: not", x.loosen(0, 0), 1);
        due("15: not, again", x.loosen(0, 0), 1);
        due("15: which", x.of(3, 3), 1);
        due("15: POINT 4", x.loosen(4, 1), -1);
        due("15: POINT -1", x.loosen(-1, 1), -1);
        due("15: POINT 32 + 3", x.loosen(35, 0), -1);
        due("15: is 2", x.loosen(0, 2), -2);
        due("15: is -1", x.loosen(0, -1), -2);
        due("15: POINT, ahead of is", x.loosen(4, 2), -1);
        due("15: extremes", x.loosen(MIN, MAX), -1);
        due("15: refused changes nothing", x.count(4), 1);
    }

    private static void join() {
        NeedlePairs x = new NeedlePairs();
        due("16: one", x.join(0, 1, 1), 1);
        due("16: turned", x.join(1, 0, 1), 1);
        due("16: two", x.join(3, 2, 1), 2);
        due("16: not", x.join(0, 1, 0), 1);
        due("16: not, again", x.join(1, 0, 0), 1);
        due("16: not, turned", x.join(2, 3, 0), 0);
        int many = 0;
        for (int one = 0; one < 4; one++) {
            for (int other = one + 1; other < 4; other++) {
                many++;
                due("16: all", x.join(other, one, 1), many);
            }
        }
        due("16: net 4", x.join(4, 0, 1), -1);
        due("16: other net 4", x.join(0, 4, 1), -1);
        due("16: net -1", x.join(-1, 0, 1), -1);
        due("16: other net -1", x.join(0, -1, 1), -1);
        due("16: they are one", x.join(2, 2, 1), -2);
        due("16: they are one, none such", x.join(4, 4, 1), -1);
        due("16: is 2", x.join(0, 1, 2), -2);
        due("16: is -1", x.join(0, 1, -1), -2);
        due("16: NET, ahead of is", x.join(0, 4, 2), -1);
        due("16: extremes", x.join(MIN, MAX, MIN), -1);
        due("16: refused changes nothing", x.count(5), 6);
    }

    private static void sees() {
        NeedlePairs x = twoNets();
        due("17: none", x.sees(), 0);
        x.loosen(3, 1);
        due("17: b", x.sees(), 2);
        x.join(0, 1, 1);
        due("17: b, c", x.sees(), 6);
        x.loosen(2, 1);
        due("17: c is hidden", x.sees(), 2);
        x.loosen(2, 0);
        x.join(0, 1, 0);
        x.join(0, 3, 1);
        x.join(3, 2, 1);
        due("17: not ONE as yet", x.sees(), 2);
        x.join(2, 1, 1);
        due("17: ONE by way of NETS without POINTS", x.sees(), 6);
        NeedlePairs y = tenTries();
        y.join(0, 3, 1);
        due("17: ten, 0 with 3", y.sees(), 1 << 6);
        y.join(3, 1, 1);
        due("17: ten, 0, 3, 1", y.sees(), 1 << 4 | 1 << 6 | 1 << 8);
        y.join(1, 2, 1);
        due("17: ten, all", y.sees(), 0x3f0);
    }

    private static void fits() {
        NeedlePairs x = twoNets();
        // c sees a SHORT, a and b see LOOSE POINTS: only SHORTS with NETS 2 and 3 are not seen.
        due("18: nothing seen", x.fits(-1), 5);
        for (int i = 0; i < 5; i++) {
            due("18: nothing seen, " + i, x.fits(i), 21 + i);
        }
        due("18: nothing seen, 5", x.fits(5), -6);
        due("18: -2", x.fits(-2), -6);
        due("18: least", x.fits(MIN), -6);
        due("18: greatest", x.fits(MAX), -6);
        x.loosen(1, 1);
        due("18: alike", x.fits(-1), 2);
        due("18: alike, 0", x.fits(0), 0);
        due("18: alike, 1", x.fits(1), 1);
        due("18: alike, 2", x.fits(2), -6);
        x.loosen(2, 1);
        due("18: no single one", x.fits(-1), 0);
        due("18: no single one, 0", x.fits(0), -6);
        x.loosen(1, 0);
        x.loosen(2, 0);
        x.join(1, 2, 1);
        x.join(2, 0, 1);
        due("18: by way of others looks like one", x.fits(-1), 1);
        due("18: by way of others looks like 20", x.fits(0), 20);
        due("18: what is there stays", x.count(5), 2);
    }

    private static void hidden() {
        NeedlePairs x = twoNets();
        due("19: how many", x.hidden(0), 5);
        due("19: the least", x.hidden(1), 21);
        due("19: what 2", x.hidden(2), -2);
        due("19: what -1", x.hidden(-1), -2);
        due("19: least", x.hidden(MIN), -2);
        x.loosen(0, 1);
        x.join(2, 3, 1);
        due("19: each alone", x.hidden(0), 5);
        x.point(2, 0, 20);
        due("19: a POINT alone in its NET", x.hidden(1), 4);
        due("19: a POINT alone in its NET, how many", x.hidden(0), 6);
        due("19: new", new NeedlePairs().hidden(1), 20);
        due("19: none", tenTries().hidden(0), 0);
        due("19: none, the least", tenTries().hidden(1), -6);
    }

    private static void halves() {
        NeedlePairs x = new NeedlePairs();
        due("20: net 4", x.halves(4, 0), -1);
        due("20: net -1", x.halves(-1, 0), -1);
        due("20: what 2", x.halves(0, 2), -2);
        due("20: what -1", x.halves(0, -1), -2);
        due("20: NET, ahead of what", x.halves(4, 2), -1);
        due("20: extremes", x.halves(MAX, MIN), -1);
        for (int net = 0; net < 4; net++) {
            due("20: none, tries", x.halves(net, 0), 3);
            due("20: none, found", x.halves(net, 1), -6);
        }
        for (int net = 0; net < 4; net++) {
            for (int other = 0; other < 4; other++) {
                if (net != other) {
                    int first = net == 0 ? 1 : 0;
                    x.join(net, other, 1);
                    due("20: tries " + net + " " + other, x.halves(net, 0), other == first ? 2 : 3);
                    due("20: found " + net + " " + other, x.halves(net, 1), other);
                    x.join(net, other, 0);
                }
            }
        }
        x.join(3, 1, 1);
        x.join(1, 2, 1);
        due("20: by way of others, the first", x.halves(3, 1), 1);
        due("20: by way of others, the first", x.halves(2, 1), 1);
        due("20: by way of others, tries", x.halves(2, 0), 3);
        x.join(0, 2, 1);
        due("20: all ONE, tries", x.halves(3, 0), 2);
        due("20: all ONE, found", x.halves(3, 1), 0);
    }

    private static void image() {
        NeedlePairs x = twoNets();
        due("21: -1", x.image(-1), -2);
        due("21: 2", x.image(2), -2);
        due("21: least", x.image(MIN), -2);
        due("21: greatest", x.image(MAX), -2);
        due("21: refused changes nothing", x.count(8), 0);
        due("21: 1", x.image(1), 1);
        due("21: kept", x.count(8), 2);
        due("21: 0", x.image(0), 1);
        due("21: both kept", x.count(8), 3);
        x.pop();
        due("21: in place", x.image(0), 1);
        x.pop();
        x.restore(0);
        due("21: the later one", x.count(0), 3);
        x.restore(1);
        due("21: the other one stays", x.count(0), 4);
    }

    private static void restore() {
        NeedlePairs x = twoNets();
        due("22: -1", x.restore(-1), -2);
        due("22: 2", x.restore(2), -2);
        due("22: greatest", x.restore(MAX), -2);
        due("22: nothing kept", x.restore(0), -3);
        x.loosen(1, 1);
        x.join(0, 1, 1);
        x.near(45);
        x.say(97);
        x.image(1);
        due("22: nothing kept in the other one", x.restore(0), -3);
        for (int round = 0; round < 2; round++) {
            x.best(-1);
            x.loosen(1, 0);
            x.loosen(2, 1);
            x.join(0, 1, 0);
            x.join(0, 2, 1);
            x.near(1);
            x.move(0, 9, 9);
            x.pop();
            x.point(3, 8, 8);
            x.say(98);
            due("22: restore", x.restore(1), 1);
            due("22: NEAR", x.count(6), 45);
            due("22: TRIES", x.count(1), 3);
            due("22: BEST", x.best(-1), 26);
            due("22: LOOSE", x.of(1, 3), 1);
            due("22: LOOSE, how many", x.count(4), 1);
            due("22: SHORT", x.count(5), 1);
            due("22: SHORT, which", x.halves(0, 1), 1);
            due("22: x", x.of(0, 1), 0);
            due("22: y", x.of(0, 2), 0);
            due("22: NET", x.of(3, 0), 1);
            due("22: THE PAD is left", x.count(7), 2 + round);
            due("22: IMAGES are left", x.count(8), 2);
        }
        NeedlePairs y = new NeedlePairs();
        y.image(0);
        y.point(0, 0, 0);
        y.near(0);
        due("22: nothing told", y.restore(0), 1);
        due("22: no POINTS", y.count(0), 0);
        due("22: NEAR at first", y.count(6), 50);
    }

    private static void count() {
        NeedlePairs x = twoNets();
        x.point(3, 20, 20);
        x.loosen(4, 1);
        x.join(0, 2, 1);
        x.join(1, 2, 1);
        x.near(60);
        x.say(97);
        x.image(1);
        int[] want = {5, 3, 1, 3, 1, 2, 60, 1, 2};
        for (int what = 0; what < want.length; what++) {
            due("23: count(" + what + ")", x.count(what), want[what]);
        }
        due("23: 9", x.count(9), -2);
        due("23: -1", x.count(-1), -2);
        due("23: least", x.count(MIN), -2);
        due("23: greatest", x.count(MAX), -2);
        NeedlePairs y = tenTries();
        due("23: ten TRIES", y.count(1), 10);
        due("23: six of NEIGHBOURS", y.count(2), 6);
        due("23: four NETS", y.count(3), 4);
        NeedlePairs z = new NeedlePairs();
        z.point(2, 0, 0);
        due("23: one NET", z.count(3), 1);
    }
}
