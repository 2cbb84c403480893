/**
 * A hat works: heads are matched with wooden blocks, hats are told by texts, and orders go
 * through one steamer and onto their blocks.
 */
public final class HatWorks {
    public static final int NONE = -1;

    private static final int RADII = 12;
    private static final int LEAST_RADIUS = 50;
    private static final int MOST_RADIUS = 200;
    private static final int MOST_BLOCKS = 10;
    private static final int MOST_ORDERS = 60;
    private static final int MOST_BYTES = 100;
    private static final int FED_BYTES = 20;
    private static final int MOST_PLANNED = 7;
    private static final int LAST_MINUTE = 1000000;
    private static final int LONGEST_WAIT = 10000;
    private static final int MOST_WEIGHT = 9;
    private static final int WIDEST_FIT = 2;

    // The places in an order's row; up to HELD they are the numbers that told() is asked with.
    private static final int BLOCK = 0;
    private static final int TURN = 1;
    private static final int MISFIT = 2;
    private static final int PRICE = 3;
    private static final int STEAM = 4;
    private static final int ON = 5;
    private static final int DUE = 6;
    private static final int WEIGHT = 7;
    private static final int STATE = 8;
    private static final int START = 9;
    private static final int DONE = 10;
    private static final int HELD = 11;
    private static final int FITTED = 12;
    private static final int ORDER_FIELDS = 13;

    // The places in a block's row of wear: the numbers that wear() is asked with.
    private static final int WENT = 0;
    private static final int FITS = 1;
    private static final int FIT_SUM = 2;
    private static final int WEAR_FIELDS = 3;

    private final int[] hand = new int[RADII];
    private final Tape tape = new Tape();
    private final Blocks blocks = new Blocks();
    private final int[][] orders = new int[MOST_ORDERS][ORDER_FIELDS];
    private final Planner planner = new Planner();
    private int handSize = 0;
    private int orderCount = 0;
    private int now = 0;
    private int steamerFree = 0;
    private int steamerLatest = NONE;
    private int faultPlace = NONE;
    // The search for BEST is dear, so it is made again only when something that it rests on changed.
    private boolean bestStands = false;

    public HatWorks() {
    }

    public int push(int radius) throws IllegalArgumentException {
        if (radius < LEAST_RADIUS || radius > MOST_RADIUS) {
            throw new IllegalArgumentException("a radius is 50 to 200");
        }
        if (handSize >= RADII) {
            return NONE;
        }
        hand[handSize] = radius;
        handSize++;
        return handSize;
    }

    public int block() throws IllegalStateException {
        if (blocks.size >= MOST_BLOCKS) {
            throw new IllegalStateException("there are 10 blocks");
        }
        if (handSize < RADII) {
            return NONE;
        }
        handSize = 0;
        return blocks.add(hand);
    }

    public int feed(int a, int b, int c, int d, int e) {
        if (tape.size > MOST_BYTES - FED_BYTES) {
            return NONE;
        }
        tape.take(a);
        tape.take(b);
        tape.take(c);
        tape.take(d);
        tape.take(e);
        return tape.size;
    }

    public int order(int n, int due, int weight) throws IllegalArgumentException {
        checkOrderArguments(n, due, weight);
        if (handSize < RADII) {
            return -1;
        }
        if (blocks.size == 0) {
            return -2;
        }
        if (orderCount >= MOST_ORDERS) {
            return -3;
        }
        int fault = tape.readHat(n);
        faultPlace = tape.faultPlace;
        tape.size = 0;
        handSize = 0;
        if (fault != Tape.NO_FAULT) {
            return fault - 10;
        }
        return addOrder(due, weight);
    }

    public int fault() {
        return faultPlace;
    }

    public int misfit(int block, int turn) throws IndexOutOfBoundsException, IllegalArgumentException {
        checkBlock(block);
        if (turn < 0 || turn >= RADII) {
            throw new IllegalArgumentException("a turn is 0 to 11");
        }
        if (handSize < RADII) {
            return NONE;
        }
        return blocks.misfitOf(hand, block, turn);
    }

    public int told(int order, int what) throws IndexOutOfBoundsException, IllegalArgumentException {
        checkOrder(order);
        if (what < BLOCK || what > HELD) {
            throw new IllegalArgumentException("an order tells 0 to 11");
        }
        return what == STATE ? stateOf(order) : orders[order][what];
    }

    public int go(int order) throws IndexOutOfBoundsException {
        checkOrder(order);
        if (!isWaiting(order)) {
            return NONE;
        }
        return send(order);
    }

    public int wait(int minutes) throws IllegalArgumentException {
        if (minutes < 0 || minutes > LONGEST_WAIT) {
            throw new IllegalArgumentException("minutes are 0 to 10,000");
        }
        if (now + minutes > LAST_MINUTE) {
            throw new IllegalArgumentException("now is at most 1,000,000");
        }
        now += minutes;
        bestStands = false;
        return now;
    }

    public long plan() {
        findBest();
        return planner.bestCost();
    }

    public int planned(int k) {
        findBest();
        return planner.bestAt(k);
    }

    public int run() {
        findBest();
        int size = planner.size;
        for (int k = 0; k < size; k++) {
            send(planner.bestAt(k));
        }
        return size;
    }

    public int late(int k) {
        int ahead = 0;
        for (int order = 0; order < orderCount; order++) {
            if (isLate(order)) {
                if (ahead == k) {
                    return order;
                }
                ahead++;
            }
        }
        return NONE;
    }

    public int fit(int order, int fit) throws IndexOutOfBoundsException, IllegalArgumentException {
        checkOrder(order);
        if (fit < -WIDEST_FIT || fit > WIDEST_FIT) {
            throw new IllegalArgumentException("a fit is -2 to 2");
        }
        if (!isDone(order)) {
            return -1;
        }
        int[] row = orders[order];
        if (row[FITTED] != 0) {
            return 0;
        }
        row[FITTED] = 1;
        int[] wear = blocks.wears[row[BLOCK]];
        wear[FITS]++;
        wear[FIT_SUM] += fit;
        return 1;
    }

    public int wear(int block, int what) throws IndexOutOfBoundsException, IllegalArgumentException {
        checkBlock(block);
        if (what < WENT || what > FIT_SUM) {
            throw new IllegalArgumentException("a block's wear is 0 to 2");
        }
        return blocks.wears[block][what];
    }

    public int count(int what) {
        switch (what) {
            case 0:
                return blocks.size;
            case 1:
                return orderCount;
            case 2:
                return countWaiting();
            case 3:
                return now;
            case 4:
                return handSize;
            case 5:
                return tape.size;
            case 6:
                return steamerFree;
            default:
                return NONE;
        }
    }

    private void checkBlock(int block) {
        if (block < 0 || block >= blocks.size) {
            throw new IndexOutOfBoundsException("no such block");
        }
    }

    private void checkOrder(int order) {
        if (order < 0 || order >= orderCount) {
            throw new IndexOutOfBoundsException("no such order");
        }
    }

    private void checkOrderArguments(int n, int due, int weight) {
        if (n < 0 || n > tape.size) {
            throw new IllegalArgumentException("the tape has not so many bytes");
        }
        if (due < 0 || due > LAST_MINUTE) {
            throw new IllegalArgumentException("due is 0 to 1,000,000");
        }
        if (weight < 1 || weight > MOST_WEIGHT) {
            throw new IllegalArgumentException("a weight is 1 to 9");
        }
    }

    /** Makes an order of the hand's ring and of the hat that the tape has read. */
    private int addOrder(int due, int weight) {
        int number = orderCount;
        int[] row = orders[number];
        blocks.match(hand, row);
        row[PRICE] = tape.price();
        row[STEAM] = tape.steamMinutes();
        row[ON] = tape.onMinutes();
        row[DUE] = due;
        row[WEIGHT] = weight;
        row[START] = NONE;
        row[DONE] = NONE;
        row[HELD] = NONE;
        row[FITTED] = 0;
        orderCount++;
        bestStands = false;
        return number;
    }

    private boolean isWaiting(int order) {
        return orders[order][START] == NONE;
    }

    private boolean isDone(int order) {
        return !isWaiting(order) && now >= orders[order][DONE];
    }

    private int stateOf(int order) {
        if (isWaiting(order)) {
            return 0;
        }
        return isDone(order) ? 2 : 1;
    }

    private boolean isLate(int order) {
        int[] row = orders[order];
        int minute = isWaiting(order) ? now : row[DONE];
        return minute > row[DUE];
    }

    private int countWaiting() {
        int waiting = 0;
        for (int order = 0; order < orderCount; order++) {
            if (isWaiting(order)) {
                waiting++;
            }
        }
        return waiting;
    }

    /** The steam goes ahead of the block, so the block may still be taken while the steamer works. */
    private static int startOf(int now, int steamerFree, int blockFree, int steam) {
        return Math.max(Math.max(now, steamerFree), blockFree - steam);
    }

    /** Lets a waiting order go, and answers when it starts. */
    private int send(int order) {
        int[] row = orders[order];
        int block = row[BLOCK];
        int start = startOf(now, steamerFree, blocks.freeFrom[block], row[STEAM]);
        row[START] = start;
        row[HELD] = holderOf(start, block);
        row[DONE] = start + row[STEAM] + row[ON];
        steamerFree = start + row[STEAM];
        steamerLatest = order;
        blocks.freeFrom[block] = row[DONE];
        blocks.latest[block] = order;
        blocks.wears[block][WENT]++;
        bestStands = false;
        return start;
    }

    /** Which order holds one that starts then, on that block; asked before that one takes its places. */
    private int holderOf(int start, int block) {
        if (start <= now) {
            return NONE;
        }
        return steamerFree >= start ? steamerLatest : blocks.latest[block];
    }

    private void findBest() {
        if (bestStands) {
            return;
        }
        planner.clear(now, blocks.freeFrom);
        for (int order = 0; order < orderCount && planner.size < MOST_PLANNED; order++) {
            if (isWaiting(order)) {
                planner.add(order, orders[order]);
            }
        }
        planner.search(steamerFree);
        bestStands = true;
    }

    /** The blocks: their rings, from when they are free, who went on them latest, and their wear. */
    private static final class Blocks {
        final int[][] rings = new int[MOST_BLOCKS][RADII];
        final int[][] wears = new int[MOST_BLOCKS][WEAR_FIELDS];
        final int[] freeFrom = new int[MOST_BLOCKS];
        final int[] latest = new int[MOST_BLOCKS];
        int size = 0;

        int add(int[] ring) {
            int number = size;
            for (int i = 0; i < RADII; i++) {
                rings[number][i] = ring[i];
            }
            latest[number] = NONE;
            size++;
            return number;
        }

        int misfitOf(int[] head, int block, int turn) {
            int[] ring = rings[block];
            int sum = 0;
            for (int i = 0; i < RADII; i++) {
                int at = i + turn;
                int off = head[at < RADII ? at : at - RADII] - ring[i];
                sum += off * off;
            }
            return sum;
        }

        /** Turns outside and blocks inside: of equal misfits the least turn is first, then the least block. */
        void match(int[] head, int[] row) {
            int least = Integer.MAX_VALUE;
            for (int turn = 0; turn < RADII; turn++) {
                for (int block = 0; block < size; block++) {
                    int misfit = misfitOf(head, block, turn);
                    if (misfit < least) {
                        least = misfit;
                        row[BLOCK] = block;
                        row[TURN] = turn;
                        row[MISFIT] = misfit;
                    }
                }
            }
        }
    }

    /** The tape, and the reading of a hat from its first bytes. */
    private static final class Tape {
        static final int NO_FAULT = 0;

        private static final int MISPLACED = 1;
        private static final int NO_SUCH_NUMBER = 2;
        private static final int INCOMPLETE = 3;

        private static final int CROWN = 0;
        private static final int BRIM = 1;
        private static final int BAND = 2;
        private static final int FELT = 3;
        private static final int PARTS = 4;
        private static final int[] LEAST = {5, 0, 0, 1};
        private static final int[] MOST = {30, 20, 9, 5};

        // Above every N that may stand, so that long rows of digits cannot run over.
        private static final int TOO_MUCH = 1000;

        private final byte[] bytes = new byte[MOST_BYTES];
        private final int[] parts = new int[PARTS];
        private int length = 0;
        private int at = 0;
        private int fault = NO_FAULT;
        int faultPlace = NONE;
        int size = 0;

        void take(int number) {
            for (int shift = 24; shift >= 0 && size < MOST_BYTES; shift -= 8) {
                bytes[size] = (byte) (number >>> shift);
                size++;
            }
        }

        /** Reads the first n bytes, n being no more than there are, and answers the fault's kind. */
        int readHat(int n) {
            startReading(n);
            boolean more = true;
            for (int k = 0; k <= PARTS && more; k++) {
                more = readPart() && readComma();
            }
            if (fault == NO_FAULT && (parts[CROWN] == NONE || parts[FELT] == NONE)) {
                blame(INCOMPLETE, length);
            }
            return fault;
        }

        int price() {
            int felt = valueOf(FELT);
            return 4 * valueOf(CROWN) * felt + 3 * valueOf(BRIM) * felt + 10 * valueOf(BAND);
        }

        int steamMinutes() {
            return 6 * valueOf(FELT) + valueOf(BRIM);
        }

        int onMinutes() {
            return 10 + valueOf(CROWN) + 20 * valueOf(FELT);
        }

        private int valueOf(int part) {
            return parts[part] == NONE ? 0 : parts[part];
        }

        private void startReading(int n) {
            length = n;
            at = 0;
            fault = NO_FAULT;
            faultPlace = NONE;
            for (int part = 0; part < PARTS; part++) {
                parts[part] = NONE;
            }
        }

        private void blame(int kind, int place) {
            fault = kind;
            faultPlace = place;
        }

        /** Whether a part stood there without a fault. */
        private boolean readPart() {
            skipBlanks();
            int wordAt = at;
            skipLetters();
            int part = partNamed(wordAt);
            if (part == NONE || parts[part] != NONE) {
                blame(MISPLACED, wordAt);
                return false;
            }
            skipBlanks();
            int numberAt = at;
            int number = readNumber();
            if (at == numberAt) {
                blame(MISPLACED, numberAt);
                return false;
            }
            if (number < LEAST[part] || number > MOST[part]) {
                blame(NO_SUCH_NUMBER, numberAt);
                return false;
            }
            parts[part] = number;
            return true;
        }

        /** Whether a comma stood there, so that another part has to follow. */
        private boolean readComma() {
            skipBlanks();
            if (at >= length) {
                return false;
            }
            if (bytes[at] != ',') {
                blame(MISPLACED, at);
                return false;
            }
            at++;
            return true;
        }

        private void skipBlanks() {
            while (at < length && bytes[at] == ' ') {
                at++;
            }
        }

        private void skipLetters() {
            while (at < length && bytes[at] >= 'a' && bytes[at] <= 'z') {
                at++;
            }
        }

        private int readNumber() {
            int number = 0;
            while (at < length && bytes[at] >= '0' && bytes[at] <= '9') {
                number = Math.min(number * 10 + (bytes[at] - '0'), TOO_MUCH);
                at++;
            }
            return number;
        }

        /** The part whose name stands from there to where the reading is; NONE if it names none. */
        private int partNamed(int from) {
            for (int part = 0; part < PARTS; part++) {
                if (isWord(nameOf(part), from)) {
                    return part;
                }
            }
            return NONE;
        }

        private boolean isWord(String word, int from) {
            if (at - from != word.length()) {
                return false;
            }
            for (int i = 0; i < word.length(); i++) {
                if (bytes[from + i] != word.charAt(i)) {
                    return false;
                }
            }
            return true;
        }

        private static String nameOf(int part) {
            switch (part) {
                case CROWN:
                    return "crown";
                case BRIM:
                    return "brim";
                case BAND:
                    return "band";
                default:
                    return "felt";
            }
        }
    }

    /** Looks through all orders in which up to seven waiting ones may go. */
    private static final class Planner {
        private final int[] numbers = new int[MOST_PLANNED];
        private final int[] onBlock = new int[MOST_PLANNED];
        private final int[] steams = new int[MOST_PLANNED];
        private final int[] ons = new int[MOST_PLANNED];
        private final int[] weights = new int[MOST_PLANNED];
        private final boolean[] gone = new boolean[MOST_PLANNED];
        private final int[] tried = new int[MOST_PLANNED];
        private final int[] best = new int[MOST_PLANNED];
        private final int[] blockFree = new int[MOST_BLOCKS];
        private int minute = 0;
        private long leastCost = 0;
        int size = 0;

        void clear(int now, int[] freeFrom) {
            minute = now;
            size = 0;
            for (int block = 0; block < MOST_BLOCKS; block++) {
                blockFree[block] = freeFrom[block];
            }
        }

        /** Takes one more that waits; the one who calls keeps to seven, and to the order of numbers. */
        void add(int order, int[] row) {
            numbers[size] = order;
            onBlock[size] = row[BLOCK];
            steams[size] = row[STEAM];
            ons[size] = row[ON];
            weights[size] = row[WEIGHT];
            gone[size] = false;
            size++;
        }

        void search(int steamerFree) {
            leastCost = Long.MAX_VALUE;
            tryAll(0, steamerFree, 0);
        }

        long bestCost() {
            return size == 0 ? 0 : leastCost;
        }

        int bestAt(int k) {
            return k < 0 || k >= size ? NONE : numbers[best[k]];
        }

        /** What comes here is cheaper than the best so far, for the dearer are left in tryNext. */
        private void tryAll(int depth, int steamerFree, long cost) {
            if (depth >= size) {
                keepTried(cost);
                return;
            }
            for (int next = 0; next < size; next++) {
                if (!gone[next]) {
                    tryNext(next, depth, steamerFree, cost);
                }
            }
        }

        private void tryNext(int next, int depth, int steamerFree, long cost) {
            int block = onBlock[next];
            int freeBefore = blockFree[block];
            int leaves = startOf(minute, steamerFree, freeBefore, steams[next]) + steams[next];
            int done = leaves + ons[next];
            long sum = cost + (long) weights[next] * done;
            // Equal is left too: what was found first stays the best.
            if (sum >= leastCost) {
                return;
            }
            tried[depth] = next;
            gone[next] = true;
            blockFree[block] = done;
            tryAll(depth + 1, leaves, sum);
            blockFree[block] = freeBefore;
            gone[next] = false;
        }

        private void keepTried(long cost) {
            leastCost = cost;
            for (int k = 0; k < size; k++) {
                best[k] = tried[k];
            }
        }
    }
}
