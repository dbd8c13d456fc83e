/**
 * A board tried by needles.
 *
 * The document's words in capitals (POINT, NET, TRY, ...) are used here in
 * its sense. Sets are numbers: bit k tells whether k is in the set.
 */
public final class NeedlePairs {
    public static final int UNKNOWN = -1, OUTSIDE = -2, STATE = -3, FULL = -4, NO = -5, NONE = -6, FAULT = -7;

    private static final int MOST_POINTS = 8;
    private static final int MOST_NETS = 4;
    /** n NETS with POINTS leave at most 8 - n pairs of TREES and n(n - 1) / 2 of NEIGHBOURS: the most at n = 4. */
    private static final int MOST_TRIES = 10;
    private static final int MOST_SIGNS = 24;
    private static final int MOST_IMAGES = 2;
    private static final int SIDE = 20;
    private static final int GREATEST_NEAR = 800;
    private static final int FIRST_NEAR = 50;
    private static final int LOWEST_SIGN = 33;
    private static final int HIGHEST_SIGN = 126;
    /** No needle ever goes farther than SIDE at once, so an ORDER takes at most MOST_TRIES times SIDE. */
    private static final int BEYOND_ALL_TIMES = MOST_TRIES * SIDE + 1;

    /** The pairs of NETS, in the order in which the document numbers SINGLE FLAWS. */
    private static final int[] LESSER_NET = {0, 0, 0, 1, 1, 2};
    private static final int[] GREATER_NET = {1, 2, 3, 2, 3, 3};
    private static final int NET_PAIRS = 6;
    private static final int FIRST_SHORT_FLAW = 20;
    private static final int FLAW_NUMBERS = FIRST_SHORT_FLAW + NET_PAIRS;

    private final Board board;
    private final Tries tries;
    private final Needles needles;
    private final Pad pad;
    private final Board[] images;
    private int keptImages;

    public NeedlePairs() {
        board = new Board();
        tries = new Tries();
        needles = new Needles();
        pad = new Pad();
        images = new Board[MOST_IMAGES];
        for (int k = 0; k < MOST_IMAGES; k++) {
            images[k] = new Board();
        }
        keptImages = 0;
    }

    // ---- 1 points

    public int point(int net, int x, int y) {
        if (!isNet(net)) {
            return UNKNOWN;
        }
        if (!isOnBoard(x, y)) {
            return OUTSIDE;
        }
        if (board.points >= MOST_POINTS) {
            return FULL;
        }
        int number = board.addPoint(net, x, y);
        layTriesAnew();
        return number;
    }

    public int pop() {
        if (board.points <= 0) {
            return STATE;
        }
        board.removeLastPoint();
        layTriesAnew();
        return board.points;
    }

    public int move(int point, int x, int y) {
        if (!board.hasPoint(point)) {
            return UNKNOWN;
        }
        if (!isOnBoard(x, y)) {
            return OUTSIDE;
        }
        int was = (SIDE + 1) * board.xs[point] + board.ys[point];
        board.xs[point] = x;
        board.ys[point] = y;
        layTriesAnew();
        return was;
    }

    public int near(int v) {
        if (v < 0 || v > GREATEST_NEAR) {
            return OUTSIDE;
        }
        int was = board.nearness;
        board.nearness = v;
        layTriesAnew();
        return was;
    }

    public int of(int point, int what) {
        if (!board.hasPoint(point)) {
            return UNKNOWN;
        }
        switch (what) {
            case 0:
                return board.nets[point];
            case 1:
                return board.xs[point];
            case 2:
                return board.ys[point];
            case 3:
                return asNumber(isIn(board.looseSet, point));
            default:
                return OUTSIDE;
        }
    }

    public int far(int one, int other) {
        if (!board.hasPoint(one) || !board.hasPoint(other)) {
            return UNKNOWN;
        }
        return board.distance(one, other);
    }

    // ---- 2 tries, orders

    public int attempt(int attempt, int what) {
        if (!tries.hasTry(attempt)) {
            return UNKNOWN;
        }
        switch (what) {
            case 0:
                return tries.left[attempt];
            case 1:
                return tries.right[attempt];
            case 2:
                return asNumber(tries.isOfNeighbours(attempt));
            case 3:
                return asNumber(tries.conducts(board, attempt, board.looseSet, board.shortSet));
            case 4:
                return asNumber(isIn(seenNow(), attempt));
            default:
                return OUTSIDE;
        }
    }

    public int time(int from, int to) {
        if (from != -1 && !tries.hasTry(from)) {
            return UNKNOWN;
        }
        if (!tries.hasTry(to)) {
            return UNKNOWN;
        }
        return needles.leap(from + 1, to);
    }

    public int say(int sign) {
        if (sign < LOWEST_SIGN || sign > HIGHEST_SIGN) {
            return OUTSIDE;
        }
        if (pad.length >= MOST_SIGNS) {
            return FULL;
        }
        pad.write(sign);
        return pad.length;
    }

    public int wipe() {
        int had = pad.length;
        pad.length = 0;
        return had;
    }

    public int told() {
        if (!pad.tellsOrderOf(tries.total)) {
            return FAULT;
        }
        int sum = 0;
        int stand = 0;
        for (int place = 0; place < pad.length; place++) {
            int next = pad.tryAt(place);
            sum += needles.leap(stand, next);
            stand = next + 1;
        }
        return sum;
    }

    public int best(int i) {
        if (i < -1) {
            return OUTSIDE;
        }
        needles.planBest();
        return needles.bestOrder.tell(i);
    }

    public int nearest(int i) {
        if (i < -1) {
            return OUTSIDE;
        }
        needles.planNearest();
        return needles.nearestOrder.tell(i);
    }

    // ---- 3 flaws

    public int loosen(int point, int is) {
        if (!board.hasPoint(point)) {
            return UNKNOWN;
        }
        if (!isSwitch(is)) {
            return OUTSIDE;
        }
        board.looseSet = withMember(board.looseSet, point, is);
        return Integer.bitCount(board.looseSet);
    }

    public int join(int one, int other, int is) {
        if (!isNet(one) || !isNet(other)) {
            return UNKNOWN;
        }
        if (one == other || !isSwitch(is)) {
            return OUTSIDE;
        }
        board.shortSet = withMember(board.shortSet, pairOfNets(one, other), is);
        return Integer.bitCount(board.shortSet);
    }

    public int sees() {
        return seenNow();
    }

    public int fits(int i) {
        return flawSeenAs(seenNow(), i);
    }

    public int hidden(int what) {
        if (!isSwitch(what)) {
            return OUTSIDE;
        }
        return what == 0 ? flawSeenAs(0, -1) : flawSeenAs(0, 0);
    }

    public int halves(int net, int what) {
        if (!isNet(net)) {
            return UNKNOWN;
        }
        if (!isSwitch(what)) {
            return OUTSIDE;
        }
        int linked = netsOneWith(net, board.shortSet);
        int left = ((1 << MOST_NETS) - 1) & ~(1 << net);
        int count = 0;
        // Each round halves the NETS that are left, so there are fewer rounds than NETS.
        for (int round = 0; round < MOST_NETS && Integer.bitCount(left) >= 2; round++) {
            int half = leastMembers(left, Integer.bitCount(left) / 2);
            left = (half & linked) != 0 ? half : left & ~half;
            count++;
        }
        count++;
        if (what == 0) {
            return count;
        }
        return leastNet(left & linked);
    }

    // ---- 4 images

    public int image(int k) {
        if (!isImage(k)) {
            return OUTSIDE;
        }
        images[k].copyFrom(board);
        keptImages |= 1 << k;
        return 1;
    }

    public int restore(int k) {
        if (!isImage(k)) {
            return OUTSIDE;
        }
        if (!isIn(keptImages, k)) {
            return STATE;
        }
        board.copyFrom(images[k]);
        layTriesAnew();
        return 1;
    }

    public int count(int what) {
        switch (what) {
            case 0:
                return board.points;
            case 1:
                return tries.total;
            case 2:
                return tries.total - tries.ofTrees;
            case 3:
                return board.countNetsWithPoints();
            case 4:
                return Integer.bitCount(board.looseSet);
            case 5:
                return Integer.bitCount(board.shortSet);
            case 6:
                return board.nearness;
            case 7:
                return pad.length;
            case 8:
                return keptImages;
            default:
                return OUTSIDE;
        }
    }

    // ---- what the calls share

    /** TRIES and their TIMES hang on POINTS and NEAR alone, so they are made anew only where these change. */
    private void layTriesAnew() {
        tries.layOut(board);
        needles.measure(board, tries);
    }

    private int seenNow() {
        return tries.seenSet(board, board.looseSet, board.shortSet);
    }

    /** Of the SINGLE FLAWS that just these TRIES would SEE: how many (i = -1), or the i-th. */
    private int flawSeenAs(int seen, int i) {
        int found = 0;
        for (int flaw = 0; flaw < FLAW_NUMBERS; flaw++) {
            if (isFlaw(flaw) && seenOfFlaw(flaw) == seen) {
                if (found == i) {
                    return flaw;
                }
                found++;
            }
        }
        return i == -1 ? found : NONE;
    }

    private boolean isFlaw(int flaw) {
        return board.hasPoint(flaw) || flaw >= FIRST_SHORT_FLAW;
    }

    private int seenOfFlaw(int flaw) {
        if (flaw >= FIRST_SHORT_FLAW) {
            return tries.seenSet(board, 0, 1 << (flaw - FIRST_SHORT_FLAW));
        }
        return tries.seenSet(board, 1 << flaw, 0);
    }

    private static boolean isNet(int net) {
        return net >= 0 && net < MOST_NETS;
    }

    private static boolean isOnBoard(int x, int y) {
        return x >= 0 && x <= SIDE && y >= 0 && y <= SIDE;
    }

    private static boolean isImage(int k) {
        return k >= 0 && k < MOST_IMAGES;
    }

    private static boolean isSwitch(int is) {
        return is == 0 || is == 1;
    }

    private static boolean isIn(int set, int member) {
        return ((set >> member) & 1) == 1;
    }

    private static int withMember(int set, int member, int is) {
        return is == 1 ? set | (1 << member) : set & ~(1 << member);
    }

    private static int asNumber(boolean is) {
        return is ? 1 : 0;
    }

    private static int leastMembers(int set, int many) {
        int least = 0;
        for (int net = 0; net < MOST_NETS; net++) {
            if (isIn(set, net) && Integer.bitCount(least) < many) {
                least |= 1 << net;
            }
        }
        return least;
    }

    private static int leastNet(int set) {
        for (int net = 0; net < MOST_NETS; net++) {
            if (isIn(set, net)) {
                return net;
            }
        }
        return NONE;
    }

    private static int pairOfNets(int one, int other) {
        int lesser = Math.min(one, other);
        int greater = Math.max(one, other);
        int pair = 0;
        for (int k = 0; k < NET_PAIRS; k++) {
            if (LESSER_NET[k] == lesser && GREATER_NET[k] == greater) {
                pair = k;
            }
        }
        return pair;
    }

    /** The set of NETS that are ONE with a NET, itself too. */
    private static int netsOneWith(int net, int shortSet) {
        int linked = 1 << net;
        // A chain of SHORT pairs over all NETS has one pair less than there are NETS.
        for (int round = 1; round < MOST_NETS; round++) {
            for (int pair = 0; pair < NET_PAIRS; pair++) {
                int both = (1 << LESSER_NET[pair]) | (1 << GREATER_NET[pair]);
                if (isIn(shortSet, pair) && (linked & both) != 0) {
                    linked |= both;
                }
            }
        }
        return linked;
    }

    /** All that an IMAGE keeps. */
    private static final class Board {
        private final int[] nets = new int[MOST_POINTS];
        private final int[] xs = new int[MOST_POINTS];
        private final int[] ys = new int[MOST_POINTS];
        private int points = 0;
        private int nearness = FIRST_NEAR;
        private int looseSet = 0;
        private int shortSet = 0;

        private void copyFrom(Board other) {
            for (int point = 0; point < MOST_POINTS; point++) {
                nets[point] = other.nets[point];
                xs[point] = other.xs[point];
                ys[point] = other.ys[point];
            }
            points = other.points;
            nearness = other.nearness;
            looseSet = other.looseSet;
            shortSet = other.shortSet;
        }

        private boolean hasPoint(int point) {
            return point >= 0 && point < points;
        }

        private int addPoint(int net, int x, int y) {
            int number = points;
            nets[number] = net;
            xs[number] = x;
            ys[number] = y;
            points++;
            return number;
        }

        private void removeLastPoint() {
            points--;
            // A POINT told later with this number must not come LOOSE.
            looseSet = withMember(looseSet, points, 0);
        }

        private int distance(int one, int other) {
            int alongX = xs[one] - xs[other];
            int alongY = ys[one] - ys[other];
            return alongX * alongX + alongY * alongY;
        }

        private boolean isLeftOf(int one, int other) {
            return xs[one] < xs[other] || (xs[one] == xs[other] && one < other);
        }

        private int countNetsWithPoints() {
            int found = 0;
            for (int point = 0; point < points; point++) {
                found |= 1 << nets[point];
            }
            return Integer.bitCount(found);
        }
    }

    /** The TRIES of a board: first those of TREES, then those of NEIGHBOURS. */
    private static final class Tries {
        private final int[] left = new int[MOST_TRIES];
        private final int[] right = new int[MOST_TRIES];
        private int total = 0;
        private int ofTrees = 0;
        /** POINTS of one group are joined as yet, while TREES grow. */
        private final int[] group = new int[MOST_POINTS];
        /** Of each POINT: the set of the greater POINTS that a TREE pairs with it. */
        private final int[] paired = new int[MOST_POINTS];

        private void layOut(Board board) {
            total = 0;
            growTrees(board);
            addTrees(board);
            ofTrees = total;
            addNeighbours(board);
        }

        private boolean hasTry(int number) {
            return number >= 0 && number < total;
        }

        private boolean isOfNeighbours(int number) {
            return number >= ofTrees;
        }

        /** All TREES grow side by side: pairs of one NET never hinder those of another one. */
        private void growTrees(Board board) {
            for (int point = 0; point < MOST_POINTS; point++) {
                group[point] = point;
                paired[point] = 0;
            }
            boolean grows = true;
            for (int pairs = 1; pairs < board.points && grows; pairs++) {
                grows = joinNextPair(board);
            }
        }

        private boolean joinNextPair(Board board) {
            int lesser = -1;
            int greater = -1;
            int least = 0;
            for (int one = 0; one < board.points; one++) {
                for (int other = one + 1; other < board.points; other++) {
                    if (board.nets[one] == board.nets[other] && group[one] != group[other]) {
                        int distance = board.distance(one, other);
                        if (lesser < 0 || distance < least) {
                            lesser = one;
                            greater = other;
                            least = distance;
                        }
                    }
                }
            }
            if (lesser < 0) {
                return false;
            }
            paired[lesser] |= 1 << greater;
            mergeGroups(group[lesser], group[greater]);
            return true;
        }

        private void mergeGroups(int stays, int goes) {
            for (int point = 0; point < MOST_POINTS; point++) {
                if (group[point] == goes) {
                    group[point] = stays;
                }
            }
        }

        private void addTrees(Board board) {
            for (int net = 0; net < MOST_NETS; net++) {
                for (int lesser = 0; lesser < board.points; lesser++) {
                    for (int greater = lesser + 1; greater < board.points; greater++) {
                        if (board.nets[lesser] == net && isIn(paired[lesser], greater)) {
                            addTry(board, lesser, greater);
                        }
                    }
                }
            }
        }

        private void addNeighbours(Board board) {
            // The pairs of NETS stand by the lesser NETS, then by the greater ones, as TRIES do.
            for (int pair = 0; pair < NET_PAIRS; pair++) {
                addNearestPair(board, LESSER_NET[pair], GREATER_NET[pair]);
            }
        }

        private void addNearestPair(Board board, int lesserNet, int greaterNet) {
            int ofLesser = -1;
            int ofGreater = -1;
            int least = 0;
            for (int one = 0; one < board.points; one++) {
                for (int other = 0; other < board.points; other++) {
                    if (board.nets[one] == lesserNet && board.nets[other] == greaterNet) {
                        int distance = board.distance(one, other);
                        if (distance <= board.nearness && (ofLesser < 0 || distance < least)) {
                            ofLesser = one;
                            ofGreater = other;
                            least = distance;
                        }
                    }
                }
            }
            if (ofLesser >= 0) {
                addTry(board, ofLesser, ofGreater);
            }
        }

        private void addTry(Board board, int one, int other) {
            if (total >= MOST_TRIES) {
                return;
            }
            boolean inOrder = board.isLeftOf(one, other);
            left[total] = inOrder ? one : other;
            right[total] = inOrder ? other : one;
            total++;
        }

        private boolean conducts(Board board, int number, int looseSet, int shortSet) {
            int one = left[number];
            int other = right[number];
            if (isIn(looseSet, one) || isIn(looseSet, other)) {
                return false;
            }
            return isIn(netsOneWith(board.nets[one], shortSet), board.nets[other]);
        }

        /** The set of TRIES that SEE a FLAW, if just these POINTS were LOOSE and these pairs of NETS SHORT. */
        private int seenSet(Board board, int looseSet, int shortSet) {
            int seen = 0;
            for (int number = 0; number < total; number++) {
                if (conducts(board, number, looseSet, shortSet) == isOfNeighbours(number)) {
                    seen |= 1 << number;
                }
            }
            return seen;
        }
    }

    /** How the needles go: a stand is 0 where they stand at first, and t + 1 at TRY t. */
    private static final class Needles {
        private int total = 0;
        /** TIME from stand s to TRY t: at s * MOST_TRIES + t. */
        private final int[] leaps = new int[(MOST_TRIES + 1) * MOST_TRIES];
        /** The least TIME from TRY t through all of a set: at set * MOST_TRIES + t. */
        private final int[] onward = new int[(1 << MOST_TRIES) * MOST_TRIES];
        private final Order bestOrder = new Order();
        private final Order nearestOrder = new Order();
        private boolean bestIsPlanned = false;

        private void measure(Board board, Tries tries) {
            total = tries.total;
            bestIsPlanned = false;
            for (int to = 0; to < total; to++) {
                int left = tries.left[to];
                int right = tries.right[to];
                leaps[to] = Math.max(
                        longer(board.xs[left], board.ys[left]),
                        longer(board.xs[right] - SIDE, board.ys[right]));
                for (int from = 0; from < total; from++) {
                    leaps[(from + 1) * MOST_TRIES + to] = Math.max(
                            way(board, tries.left[from], left),
                            way(board, tries.right[from], right));
                }
            }
        }

        private static int way(Board board, int from, int to) {
            return longer(board.xs[to] - board.xs[from], board.ys[to] - board.ys[from]);
        }

        private static int longer(int alongX, int alongY) {
            return Math.max(Math.abs(alongX), Math.abs(alongY));
        }

        private int leap(int stand, int to) {
            return leaps[stand * MOST_TRIES + to];
        }

        private int allTries() {
            return (1 << total) - 1;
        }

        private void planNearest() {
            plan(nearestOrder, false);
        }

        /** It is dear, so it is done once for all askings between two changes of the board. */
        private void planBest() {
            if (!bestIsPlanned) {
                weighOnward();
                plan(bestOrder, true);
                bestIsPlanned = true;
            }
        }

        private void plan(Order order, boolean isBest) {
            order.clear();
            int stand = 0;
            int set = allTries();
            for (int place = 0; place < total; place++) {
                int next = isBest ? firstOfBest(stand, set) : nearestOf(stand, set);
                order.append(next, leap(stand, next));
                set &= ~(1 << next);
                stand = next + 1;
            }
        }

        private int nearestOf(int stand, int set) {
            int nearest = 0;
            int least = BEYOND_ALL_TIMES;
            for (int next = 0; next < total; next++) {
                if (isIn(set, next) && leap(stand, next) < least) {
                    nearest = next;
                    least = leap(stand, next);
                }
            }
            return nearest;
        }

        private void weighOnward() {
            // The empty set weighs 0, always. Sets rise, so each set without one of its TRIES
            // has been weighed before the set itself.
            int all = allTries();
            for (int set = 1; set <= all; set++) {
                for (int last = 0; last < total; last++) {
                    if (!isIn(set, last)) {
                        onward[set * MOST_TRIES + last] = leastThrough(last + 1, set);
                    }
                }
            }
        }

        /** The least TIME from a stand through all of a set that has a TRY. */
        private int leastThrough(int stand, int set) {
            int least = BEYOND_ALL_TIMES;
            for (int next = 0; next < total; next++) {
                int bit = 1 << next;
                if ((set & bit) != 0) {
                    int sum = leaps[stand * MOST_TRIES + next] + onward[(set ^ bit) * MOST_TRIES + next];
                    if (sum < least) {
                        least = sum;
                    }
                }
            }
            return least;
        }

        /** The least TRY with which a way of the least TIME through all of a set begins. */
        private int firstOfBest(int stand, int set) {
            int least = leastThrough(stand, set);
            int first = 0;
            for (int next = total - 1; next >= 0; next--) {
                int without = set & ~(1 << next);
                if (without != set && leap(stand, next) + onward[without * MOST_TRIES + next] == least) {
                    first = next;
                }
            }
            return first;
        }
    }

    /** An ORDER with its TIME. */
    private static final class Order {
        private final int[] tries = new int[MOST_TRIES];
        private int length = 0;
        private int sum = 0;

        private void clear() {
            length = 0;
            sum = 0;
        }

        private void append(int next, int leap) {
            if (length >= MOST_TRIES) {
                return;
            }
            tries[length] = next;
            length++;
            sum += leap;
        }

        private int tell(int i) {
            if (i == -1) {
                return sum;
            }
            return i >= 0 && i < length ? tries[i] : NONE;
        }
    }

    /** THE PAD. */
    private static final class Pad {
        private final int[] signs = new int[MOST_SIGNS];
        private int length = 0;

        private void write(int sign) {
            signs[length] = sign;
            length++;
        }

        private int tryAt(int place) {
            return signs[place] - 'a';
        }

        private boolean tellsOrderOf(int total) {
            if (length != total) {
                return false;
            }
            int told = 0;
            for (int place = 0; place < length; place++) {
                int next = tryAt(place);
                if (next < 0 || next >= total || isIn(told, next)) {
                    return false;
                }
                told |= 1 << next;
            }
            return true;
        }
    }
}
