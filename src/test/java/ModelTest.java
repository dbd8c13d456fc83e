import java.util.ArrayList;
import java.util.Arrays;
import java.util.Comparator;
import java.util.HashMap;
import java.util.List;
import java.util.Map;
import java.util.Random;

/**
 * Random runs of calls (always the same ones) against a second writing of the document that shares no way of
 * working with the program: lists and sorting, trees by cutting, orders by trying all of them.
 */
public final class ModelTest {
    private static final int RUNS = 400;
    private static final int CALLS = 160;
    /** An object is good for 512 calls; a step of a run makes at most 13 (an ORDER of ten signs put on THE PAD). */
    private static final int MOST_CALLS = 512 - 13;
    private static int wrong = 0;

    public static void main(String[] args) {
        int asked = 0;
        int[] seenTries = new int[11];
        for (int run = 0; run < RUNS; run++) {
            asked += oneRun(run, seenTries);
        }
        for (int n = 0; n <= 10; n++) {
            if (seenTries[n] == 0) {
                wrong++;
                System.out.println("no run came to " + n + " TRIES");
            }
        }
        System.out.println(asked + " calls, " + wrong + " answers are not as due; runs' steps by TRIES: "
                + Arrays.toString(seenTries));
        if (wrong != 0) {
            System.exit(1);
        }
    }

    private static int oneRun(int run, int[] seenTries) {
        Random random = new Random(run);
        NeedlePairs real = new NeedlePairs();
        Model model = new Model();
        int side = new int[] {2, 6, 12, 20}[run % 4];
        StringBuilder story = new StringBuilder();
        int made = 0;
        for (int call = 0; call < CALLS && made <= MOST_CALLS; call++) {
            int which = call < 10 ? 0 : random.nextInt(30);
            int[] a = arguments(which, random, side, model);
            int got = onReal(real, which, a);
            int want = model.answer(which, a);
            story.append(' ').append(which).append(Arrays.toString(a));
            if (got != want) {
                wrong++;
                System.out.println("run " + run + ": answered " + got + ", due is " + want + " at the end of" + story);
                return made;
            }
            seenTries[model.tries().size()]++;
            made += which < 26 ? 1 : 3 + model.tries().size();
        }
        return made;
    }

    private static int[] arguments(int which, Random random, int side, Model model) {
        int[] a = new int[3];
        for (int k = 0; k < 3; k++) {
            a[k] = random.nextInt(6) - 1;
        }
        int points = model.now.points.size();
        int tries = model.tries().size();
        switch (which) {
            case 0:
                a[0] = random.nextInt(40) == 0 ? a[0] : random.nextInt(4);
                a[1] = place(random, side);
                a[2] = place(random, side);
                break;
            case 2:
                a[0] = random.nextInt(points + 1);
                a[1] = place(random, side);
                a[2] = place(random, side);
                break;
            case 3:
                a[0] = random.nextInt(3) == 0 ? random.nextInt(820) - 10 : random.nextInt(side * side * 2 + 1);
                break;
            case 4:
            case 13:
                a[0] = random.nextInt(points + 2) - 1;
                break;
            case 5:
                a[0] = random.nextInt(points + 2) - 1;
                a[1] = random.nextInt(points + 2) - 1;
                break;
            case 6:
                a[0] = random.nextInt(tries + 2) - 1;
                a[1] = random.nextInt(7) - 1;
                break;
            case 7:
                a[0] = random.nextInt(tries + 2) - 1;
                a[1] = random.nextInt(tries + 2) - 1;
                break;
            case 8:
                a[0] = random.nextInt(20) == 0 ? random.nextInt(160) : 97 + random.nextInt(tries + 1);
                break;
            case 11:
            case 12:
            case 16:
                a[0] = random.nextInt(14) - 2;
                break;
            case 21:
                a[0] = random.nextInt(11) - 1;
                break;
            default:
                break;
        }
        if (random.nextInt(30) == 0) {
            a[random.nextInt(3)] = random.nextBoolean() ? Integer.MAX_VALUE : Integer.MIN_VALUE;
        }
        return a;
    }

    private static int place(Random random, int side) {
        return random.nextInt(40) == 0 ? random.nextInt(25) - 2 : random.nextInt(side + 1);
    }

    private static int onReal(NeedlePairs x, int which, int[] a) {
        switch (which) {
            case 0: return x.point(a[0], a[1], a[2]);
            case 1: return x.pop();
            case 2: return x.move(a[0], a[1], a[2]);
            case 3: return x.near(a[0]);
            case 4: return x.of(a[0], a[1]);
            case 5: return x.far(a[0], a[1]);
            case 6: return x.attempt(a[0], a[1]);
            case 7: return x.time(a[0], a[1]);
            case 8: return x.say(a[0]);
            case 9: return x.wipe();
            case 10: return x.told();
            case 11: return x.best(a[0]);
            case 12: return x.nearest(a[0]);
            case 13: return x.loosen(a[0], a[1]);
            case 14: return x.join(a[0], a[1], a[2]);
            case 15: return x.sees();
            case 16: return x.fits(a[0]);
            case 17: return x.hidden(a[0]);
            case 18: return x.halves(a[0], a[1]);
            case 19: return x.image(a[0]);
            case 20: return x.restore(a[0]);
            case 21: return x.count(a[0]);
            default: return pass(x, which);
        }
    }

    /**
     * Beyond the single calls: POINTS go as often as they come, and THE PAD is filled with an ORDER, so that told()
     * has more to answer than FAULT.
     */
    private static int pass(NeedlePairs x, int which) {
        if (which < 24) {
            return x.pop();
        }
        if (which < 26) {
            return x.point(which - 22, 3 * which - 60, 80 - 3 * which);
        }
        x.wipe();
        int total = x.count(1);
        for (int k = 0; k < total; k++) {
            x.say('a' + (which % 2 == 0 ? k : total - 1 - k));
        }
        return x.told();
    }

    private record Point(int net, int x, int y, boolean loose) {
    }

    /** One and other by rising numbers of POINTS, or (neighbours) of NETS. */
    private record Try(int one, int other, boolean neighbours) {
    }

    private static final class State {
        final List<Point> points = new ArrayList<>();
        final boolean[][] shorted = new boolean[4][4];
        int near = 50;

        State copy() {
            State copy = new State();
            copy.points.addAll(points);
            for (int k = 0; k < 4; k++) {
                copy.shorted[k] = shorted[k].clone();
            }
            copy.near = near;
            return copy;
        }
    }

    private static final class Model {
        State now = new State();
        final State[] images = new State[2];
        String pad = "";

        int answer(int which, int[] a) {
            switch (which) {
                case 0: return point(a[0], a[1], a[2]);
                case 1: return pop();
                case 2: return move(a[0], a[1], a[2]);
                case 3: return near(a[0]);
                case 4: return of(a[0], a[1]);
                case 5: return has(a[0]) && has(a[1]) ? far(a[0], a[1]) : -1;
                case 6: return attempt(a[0], a[1]);
                case 7: return time(a[0], a[1]);
                case 8: return say(a[0]);
                case 9: return wipe();
                case 10: return told();
                case 11: return a[0] < -1 ? -2 : tell(best(), a[0]);
                case 12: return a[0] < -1 ? -2 : tell(nearest(), a[0]);
                case 13: return loosen(a[0], a[1]);
                case 14: return join(a[0], a[1], a[2]);
                case 15: return sees(now);
                case 16: return pick(flawsSeenAs(sees(now)), a[0]);
                case 17: return a[0] < 0 || a[0] > 1 ? -2 : pick(flawsSeenAs(0), a[0] - 1);
                case 18: return halves(a[0], a[1]);
                case 19: return image(a[0]);
                case 20: return restore(a[0]);
                case 21: return count(a[0]);
                default: return pass(which);
            }
        }

        int pass(int which) {
            if (which < 24) {
                return pop();
            }
            if (which < 26) {
                return point(which - 22, 3 * which - 60, 80 - 3 * which);
            }
            StringBuilder all = new StringBuilder();
            for (int k = 0; k < tries().size(); k++) {
                all.append((char) ('a' + k));
            }
            pad = which % 2 == 0 ? all.toString() : all.reverse().toString();
            return told();
        }

        boolean has(int point) {
            return point >= 0 && point < now.points.size();
        }

        static boolean off(int v) {
            return v < 0 || v > 20;
        }

        int point(int net, int x, int y) {
            if (net < 0 || net > 3) return -1;
            if (off(x) || off(y)) return -2;
            if (now.points.size() == 8) return -4;
            now.points.add(new Point(net, x, y, false));
            return now.points.size() - 1;
        }

        int pop() {
            if (now.points.isEmpty()) return -3;
            now.points.remove(now.points.size() - 1);
            return now.points.size();
        }

        int move(int point, int x, int y) {
            if (!has(point)) return -1;
            if (off(x) || off(y)) return -2;
            Point p = now.points.get(point);
            now.points.set(point, new Point(p.net, x, y, p.loose));
            return 21 * p.x + p.y;
        }

        int near(int v) {
            if (v < 0 || v > 800) return -2;
            int was = now.near;
            now.near = v;
            return was;
        }

        int of(int point, int what) {
            if (!has(point)) return -1;
            if (what < 0 || what > 3) return -2;
            Point p = now.points.get(point);
            return new int[] {p.net, p.x, p.y, p.loose ? 1 : 0}[what];
        }

        int far(int one, int other) {
            Point p = now.points.get(one);
            Point q = now.points.get(other);
            return (p.x - q.x) * (p.x - q.x) + (p.y - q.y) * (p.y - q.y);
        }

        /**
         * A pair is of a TREE just if no way of pairs that all come before it (by FAR, lesser, greater POINT) joins
         * its two POINTS: what all earlier pairs reach is what the pairs taken among them reach.
         */
        boolean inTree(int one, int other) {
            int reached = 1 << one;
            for (int again = 0; again < 8; again++) {
                for (int p = 0; p < now.points.size(); p++) {
                    for (int q = p + 1; q < now.points.size(); q++) {
                        boolean sameNet = netOf(p) == netOf(one) && netOf(q) == netOf(one);
                        if (sameNet && rank(p, q) < rank(one, other) && (reached & (1 << p | 1 << q)) != 0) {
                            reached |= 1 << p | 1 << q;
                        }
                    }
                }
            }
            return netOf(one) == netOf(other) && (reached >> other & 1) == 0;
        }

        int rank(int lesser, int greater) {
            return far(lesser, greater) * 100 + lesser * 10 + greater;
        }

        int netOf(int point) {
            return now.points.get(point).net;
        }

        List<Try> tries() {
            List<Try> trees = new ArrayList<>();
            List<Try> all = new ArrayList<>();
            Map<Integer, Integer> ranks = new HashMap<>();
            int many = now.points.size();
            for (int one = 0; one < many; one++) {
                for (int other = 0; other < many; other++) {
                    if (one < other && inTree(one, other)) {
                        trees.add(new Try(one, other, false));
                    }
                    if (netOf(one) < netOf(other) && far(one, other) <= now.near) {
                        ranks.merge(netOf(one) * 4 + netOf(other), rank(one, other), Math::min);
                    }
                }
            }
            trees.sort(Comparator.comparingInt(t -> netOf(t.one) * 100 + t.one * 10 + t.other));
            all.addAll(trees);
            List<Integer> nets = new ArrayList<>(ranks.keySet());
            nets.sort(null);
            for (int key : nets) {
                int rank = ranks.get(key);
                all.add(new Try(rank / 10 % 10, rank % 10, true));
            }
            return all;
        }

        int leftOf(Try t) {
            Point p = now.points.get(t.one);
            Point q = now.points.get(t.other);
            if (p.x == q.x) return Math.min(t.one, t.other);
            return p.x < q.x ? t.one : t.other;
        }

        int rightOf(Try t) {
            return t.one + t.other - leftOf(t);
        }

        boolean conducts(State state, Try t) {
            Point p = state.points.get(t.one);
            Point q = state.points.get(t.other);
            return !p.loose && !q.loose && one(state, p.net, q.net);
        }

        boolean one(State state, int net, int other) {
            boolean[][] linked = new boolean[4][4];
            for (int i = 0; i < 4; i++) {
                for (int j = 0; j < 4; j++) {
                    linked[i][j] = i == j || state.shorted[i][j];
                }
            }
            for (int via = 0; via < 4; via++) {
                for (int i = 0; i < 4; i++) {
                    for (int j = 0; j < 4; j++) {
                        linked[i][j] |= linked[i][via] && linked[via][j];
                    }
                }
            }
            return linked[net][other];
        }

        int sees(State state) {
            List<Try> tries = tries();
            int set = 0;
            for (int k = 0; k < tries.size(); k++) {
                Try t = tries.get(k);
                if (t.neighbours ? conducts(state, t) : !conducts(state, t)) {
                    set += 1 << k;
                }
            }
            return set;
        }

        int attempt(int number, int what) {
            List<Try> tries = tries();
            if (number < 0 || number >= tries.size()) return -1;
            if (what < 0 || what > 4) return -2;
            Try t = tries.get(number);
            return new int[] {leftOf(t), rightOf(t), t.neighbours ? 1 : 0, conducts(now, t) ? 1 : 0,
                sees(now) >> number & 1}[what];
        }

        int[] stand(List<Try> tries, int number) {
            if (number < 0) return new int[] {0, 0, 20, 0};
            Point left = now.points.get(leftOf(tries.get(number)));
            Point right = now.points.get(rightOf(tries.get(number)));
            return new int[] {left.x, left.y, right.x, right.y};
        }

        int leap(List<Try> tries, int from, int to) {
            int[] a = stand(tries, from);
            int[] b = stand(tries, to);
            int most = 0;
            for (int k = 0; k < 4; k++) {
                most = Math.max(most, Math.abs(a[k] - b[k]));
            }
            return most;
        }

        int time(int from, int to) {
            List<Try> tries = tries();
            if (from < -1 || from >= tries.size() || to < 0 || to >= tries.size()) return -1;
            return leap(tries, from, to);
        }

        int say(int sign) {
            if (sign < 33 || sign > 126) return -2;
            if (pad.length() == 24) return -4;
            pad += (char) sign;
            return pad.length();
        }

        int wipe() {
            int had = pad.length();
            pad = "";
            return had;
        }

        int told() {
            List<Try> tries = tries();
            char[] sorted = pad.toCharArray();
            Arrays.sort(sorted);
            StringBuilder all = new StringBuilder();
            for (int k = 0; k < tries.size(); k++) {
                all.append((char) ('a' + k));
            }
            if (!all.toString().equals(new String(sorted))) return -7;
            int[] order = new int[pad.length()];
            for (int k = 0; k < order.length; k++) {
                order[k] = pad.charAt(k) - 'a';
            }
            return sum(tries, order);
        }

        int sum(List<Try> tries, int[] order) {
            int sum = 0;
            int from = -1;
            for (int to : order) {
                sum += leap(tries, from, to);
                from = to;
            }
            return sum;
        }

        int tell(int[] order, int i) {
            if (i == -1) return sum(tries(), order);
            return i < order.length ? order[i] : -6;
        }

        int[] nearest() {
            List<Try> tries = tries();
            List<Integer> left = new ArrayList<>();
            for (int k = 0; k < tries.size(); k++) {
                left.add(k);
            }
            int[] order = new int[tries.size()];
            int at = -1;
            for (int k = 0; k < order.length; k++) {
                int from = at;
                left.sort(Comparator.comparingInt((Integer t) -> leap(tries, from, t)).thenComparing(t -> t));
                at = left.remove(0);
                order[k] = at;
            }
            return order;
        }

        /** All ORDERS by rising texts, those left out that are no better already: the first of the least stays. */
        int[] best() {
            List<Try> tries = tries();
            int many = tries.size();
            int[][] leaps = new int[many + 1][many];
            for (int from = -1; from < many; from++) {
                for (int to = 0; to < many; to++) {
                    leaps[from + 1][to] = leap(tries, from, to);
                }
            }
            int[] best = new int[many];
            int[] least = {Integer.MAX_VALUE};
            tryAll(leaps, new int[many], 0, 0, 0, best, least);
            return best;
        }

        private void tryAll(int[][] leaps, int[] order, int place, int used, int sum, int[] best, int[] least) {
            if (sum >= least[0]) return;
            if (place == order.length) {
                least[0] = sum;
                System.arraycopy(order, 0, best, 0, place);
                return;
            }
            int stand = place == 0 ? 0 : order[place - 1] + 1;
            for (int next = 0; next < order.length; next++) {
                if ((used >> next & 1) == 0) {
                    order[place] = next;
                    tryAll(leaps, order, place + 1, used | 1 << next, sum + leaps[stand][next], best, least);
                }
            }
        }

        int loosen(int point, int is) {
            if (!has(point)) return -1;
            if (is < 0 || is > 1) return -2;
            Point p = now.points.get(point);
            now.points.set(point, new Point(p.net, p.x, p.y, is == 1));
            return count(4);
        }

        int join(int one, int other, int is) {
            if (one < 0 || one > 3 || other < 0 || other > 3) return -1;
            if (one == other || is < 0 || is > 1) return -2;
            now.shorted[one][other] = is == 1;
            now.shorted[other][one] = is == 1;
            return count(5);
        }

        List<Integer> flawsSeenAs(int seen) {
            List<Integer> found = new ArrayList<>();
            State whole = now.copy();
            for (int p = 0; p < whole.points.size(); p++) {
                Point q = whole.points.get(p);
                whole.points.set(p, new Point(q.net, q.x, q.y, false));
            }
            for (boolean[] row : whole.shorted) {
                Arrays.fill(row, false);
            }
            for (int p = 0; p < whole.points.size(); p++) {
                State state = whole.copy();
                Point q = whole.points.get(p);
                state.points.set(p, new Point(q.net, q.x, q.y, true));
                if (sees(state) == seen) found.add(p);
            }
            int number = 20;
            for (int one = 0; one < 4; one++) {
                for (int other = one + 1; other < 4; other++) {
                    State state = whole.copy();
                    state.shorted[one][other] = true;
                    state.shorted[other][one] = true;
                    if (sees(state) == seen) found.add(number);
                    number++;
                }
            }
            return found;
        }

        int pick(List<Integer> found, int i) {
            if (i == -1) return found.size();
            return i >= 0 && i < found.size() ? found.get(i) : -6;
        }

        int halves(int net, int what) {
            if (net < 0 || net > 3) return -1;
            if (what < 0 || what > 1) return -2;
            List<Integer> left = new ArrayList<>(List.of(0, 1, 2, 3));
            left.remove(Integer.valueOf(net));
            int tries = 1;
            while (left.size() > 1) {
                List<Integer> half = left.subList(0, left.size() / 2);
                boolean any = half.stream().anyMatch(other -> one(now, net, other));
                left = new ArrayList<>(any ? half : left.subList(left.size() / 2, left.size()));
                tries++;
            }
            if (what == 0) return tries;
            return one(now, net, left.get(0)) ? left.get(0) : -6;
        }

        int image(int k) {
            if (k < 0 || k > 1) return -2;
            images[k] = now.copy();
            return 1;
        }

        int restore(int k) {
            if (k < 0 || k > 1) return -2;
            if (images[k] == null) return -3;
            now = images[k].copy();
            return 1;
        }

        int count(int what) {
            switch (what) {
                case 0: return now.points.size();
                case 1: return tries().size();
                case 2: return (int) tries().stream().filter(Try::neighbours).count();
                case 3: return (int) now.points.stream().map(Point::net).distinct().count();
                case 4: return (int) now.points.stream().filter(Point::loose).count();
                case 5: return shortPairs();
                case 6: return now.near;
                case 7: return pad.length();
                case 8: return (images[0] == null ? 0 : 1) + (images[1] == null ? 0 : 2);
                default: return -2;
            }
        }

        private int shortPairs() {
            int found = 0;
            for (int one = 0; one < 4; one++) {
                for (int other = 0; other < one; other++) {
                    found += now.shorted[one][other] ? 1 : 0;
                }
            }
            return found;
        }
    }
}
