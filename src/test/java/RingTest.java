/** Terms ==== 1 and promises 1, 2, 3, 7: a new object, hand, blocks, misfit, and the matching of heads. */
public final class RingTest {
    private static final int[] RING = {50, 60, 70, 80, 90, 100, 110, 120, 130, 140, 150, 200};
    private static final int[] HEAD = {51, 75, 199, 50, 88, 120, 133, 61, 97, 144, 180, 160};

    public static void main(String[] args) {
        newObject();
        newObjectsShareNothing();
        radius();
        pushed();
        handIsFull();
        thirteenthIsNotTaken();
        refusedRadiusIsNotTaken();
        blockOfTwelve();
        blockOfFewer();
        blockTakesTheRingInItsOrder();
        tenBlocks();
        eleventhBlock();
        misfitTurn();
        misfitWrapsAround();
        misfitTimesItself();
        misfitOfShortHand();
        misfitLeavesTheHand();
        misfitBlock();
        misfitRefusals();
        leastMisfit();
        leastTurn();
        leastBlock();
        lastTurnAndBlock();
        matchedAsItComes();
        Check.end();
    }

    private static void newObject() {
        Check.sentence("No BLOCKS, no ORDERS; NOW 0; an empty HAND.");
        HatWorks x = new HatWorks();
        for (int what = 0; what <= 6; what++) {
            Check.due("count(" + what + ")", x.count(what), 0);
        }
        Check.due("fault", x.fault(), -1);
        Check.due("plan", x.plan(), 0);
        Check.due("planned(0)", x.planned(0), -1);
        Check.due("run", x.run(), 0);
        Check.due("late(0)", x.late(0), -1);
        Check.due("block", x.block(), -1);
        Check.due("order", x.order(0, 0, 1), -1);
        Check.outside("misfit", () -> x.misfit(0, 0));
        Check.outside("told", () -> x.told(0, 0));
        Check.outside("go", () -> x.go(0));
        Check.outside("fit", () -> x.fit(0, 0));
        Check.outside("wear", () -> x.wear(0, 0));
    }

    private static void newObjectsShareNothing() {
        Check.sentence("No BLOCKS, no ORDERS; NOW 0; an empty HAND.");
        HatWorks used = Check.works(100);
        Check.addOrder(used, 100, "crown 5,felt 1", 0, 1);
        used.run();
        used.wait(7);
        used.push(100);
        used.feed(0, 0, 0, 0, 0);
        newObject();
        Check.due("the used one's blocks", used.count(0), 1);
        Check.due("the used one's hand", used.count(4), 1);
    }

    private static void radius() {
        Check.sentence("IllegalArgumentException: it is not 50 to 200.");
        Check.range("push", 50, 200, IllegalArgumentException.class, HatWorks::new, HatWorks::push, v -> 1);
    }

    private static void pushed() {
        Check.sentence("A radius is pushed: how many the HAND has");
        HatWorks x = new HatWorks();
        for (int i = 1; i <= 12; i++) {
            Check.due("push", x.push(49 + i), i);
            Check.due("count(4)", x.count(4), i);
        }
    }

    private static void handIsFull() {
        Check.sentence("NONE, doing nothing: it has 12.");
        HatWorks x = new HatWorks();
        Check.pushSome(x, 11, 100);
        Check.due("the 12th", x.push(100), 12);
        Check.due("a 13th", x.push(100), -1);
        Check.due("a 14th", x.push(100), -1);
        Check.due("count(4)", x.count(4), 12);
        Check.illegal("49 on a full hand", () -> x.push(49));
        Check.illegal("201 on a full hand", () -> x.push(201));
    }

    private static void thirteenthIsNotTaken() {
        Check.sentence("NONE, doing nothing: it has 12.");
        HatWorks x = new HatWorks();
        Check.push(x, RING);
        x.block();
        Check.push(x, RING);
        x.push(77);
        Check.due("the first twelve stay", x.misfit(0, 0), 0);
    }

    private static void refusedRadiusIsNotTaken() {
        Check.sentence("IllegalArgumentException: it is not 50 to 200.");
        HatWorks x = new HatWorks();
        Check.push(x, RING);
        x.block();
        for (int radius : RING) {
            Check.illegal("push(49)", () -> x.push(49));
            x.push(radius);
            Check.illegal("push(201)", () -> x.push(201));
        }
        Check.due("the hand has the good ones", x.misfit(0, 0), 0);
    }

    private static void blockOfTwelve() {
        Check.sentence("A BLOCK of the HAND (empty then): its number");
        HatWorks x = new HatWorks();
        Check.pushSome(x, 12, 100);
        Check.due("block", x.block(), 0);
        Check.due("the hand is empty", x.count(4), 0);
        Check.due("one block", x.count(0), 1);
        Check.due("push begins anew", x.push(100), 1);
        HatWorks y = new HatWorks();
        Check.pushSome(y, 13, 100);
        Check.due("of 13 pushed, 12 are there", y.block(), 0);
    }

    private static void blockOfFewer() {
        Check.sentence("-1, and the HAND stays: it has not 12.");
        for (int many = 0; many < 12; many++) {
            HatWorks x = new HatWorks();
            Check.pushSome(x, many, 100);
            Check.due("block of " + many, x.block(), -1);
            Check.due("the hand stays", x.count(4), many);
            Check.due("no block", x.count(0), 0);
        }
        HatWorks y = Check.works(100);
        Check.pushSome(y, 6, 100);
        y.block();
        Check.pushSome(y, 6, 110);
        Check.due("its radii stay too", y.misfit(0, 0), 600);
    }

    private static void blockTakesTheRingInItsOrder() {
        Check.sentence("A RING is a row of 12 radii, 50 to 200 each, told by what was pushed");
        for (int i = 0; i < 12; i++) {
            HatWorks x = new HatWorks();
            Check.push(x, RING);
            x.block();
            int[] head = RING.clone();
            head[i] += i == 11 ? -1 : 1;
            Check.push(x, head);
            Check.due("one off at " + i, x.misfit(0, 0), 1);
            for (int turn = 1; turn < 12; turn++) {
                Check.due("turned by " + turn, x.misfit(0, turn) > 1 ? 1 : 0, 1);
            }
        }
    }

    private static void tenBlocks() {
        Check.sentence("BLOCKS, numbered from 0 on, 10 at most, have a RING.");
        HatWorks x = new HatWorks();
        for (int k = 0; k < 10; k++) {
            Check.due("block " + k, Check.addBlock(x, 100 + k, 100), k);
            Check.due("so many", x.count(0), k + 1);
        }
        Check.pushSome(x, 12, 100);
        for (int k = 0; k < 10; k++) {
            Check.due("each has its own ring", x.misfit(k, 0), k * k);
        }
    }

    private static void eleventhBlock() {
        Check.sentence("IllegalStateException: there are 10.");
        int[] hands = {0, 11, 12};
        for (int many : hands) {
            HatWorks x = Check.works(60, 70, 80, 90, 100, 110, 120, 130, 140, 150);
            Check.pushSome(x, many, 100);
            Check.throwing("an 11th of " + many, IllegalStateException.class, x::block);
            Check.due("the hand stays", x.count(4), many);
            Check.due("there are 10", x.count(0), 10);
        }
        HatWorks y = Check.works(60, 70, 80, 90, 100, 110, 120, 130, 140);
        Check.pushSome(y, 11, 100);
        Check.due("with 9 a short hand is -1", y.block(), -1);
        y.push(100);
        Check.due("with 9 there is a tenth", y.block(), 9);
    }

    private static HatWorks ringAndHead() {
        HatWorks x = new HatWorks();
        Check.push(x, RING);
        x.block();
        Check.push(x, HEAD);
        return x;
    }

    private static long misfitOf(int turn) {
        long sum = 0;
        for (int i = 0; i < 12; i++) {
            long off = HEAD[(i + turn) % 12] - RING[i];
            sum += off * off;
        }
        return sum;
    }

    private static void misfitTurn() {
        Check.sentence("a TURN t (0 to 11); IllegalArgumentException: no such TURN.");
        Check.range("misfit", 0, 11, IllegalArgumentException.class, RingTest::ringAndHead,
            (x, turn) -> x.misfit(0, turn), RingTest::misfitOf);
        HatWorks y = ringAndHead();
        for (int turn = 0; turn < 12; turn++) {
            Check.due("turn " + turn, y.misfit(0, turn), misfitOf(turn));
        }
    }

    private static void misfitWrapsAround() {
        Check.sentence("h at (i + t), less 12 from 12 on; less b at i");
        // The block's peak is at i, the head's at p: they meet where i + t is p, or p + 12.
        int[] places = {0, 1, 10, 11};
        for (int i : places) {
            for (int p = 0; p < 12; p++) {
                HatWorks x = new HatWorks();
                Check.pushPeak(x, i, 110, 100);
                x.block();
                Check.pushPeak(x, p, 110, 100);
                for (int turn = 0; turn < 12; turn++) {
                    boolean meet = i + turn == p || i + turn == p + 12;
                    Check.due("peaks " + i + ", " + p + ", turn " + turn, x.misfit(0, turn), meet ? 0 : 200);
                }
            }
        }
    }

    private static void misfitTimesItself() {
        Check.sentence("the sum, for i from 0 to 11, of (..) times itself");
        int[][] cases = {{100, 100, 0}, {101, 100, 12}, {100, 101, 12}, {50, 200, 270000}, {200, 50, 270000}};
        for (int[] c : cases) {
            HatWorks x = Check.works(c[1]);
            Check.pushSome(x, 12, c[0]);
            Check.due("head " + c[0] + " on " + c[1], x.misfit(0, 0), c[2]);
        }
        HatWorks y = Check.works(100);
        Check.push(y, 101, 99, 100, 100, 100, 100, 100, 100, 100, 100, 100, 100);
        Check.due("above and below don't meet", y.misfit(0, 0), 2);
    }

    private static void misfitOfShortHand() {
        Check.sentence("NONE: the HAND has not 12.");
        HatWorks x = Check.works(100);
        for (int many = 0; many < 12; many++) {
            Check.due("hand of " + many, x.misfit(0, 0), -1);
            Check.due("hand of " + many + ", turn 11", x.misfit(0, 11), -1);
            x.push(100);
        }
        Check.due("hand of 12", x.misfit(0, 0), 0);
        x.push(100);
        Check.due("a 13th pushed", x.misfit(0, 0), 0);
    }

    private static void misfitLeavesTheHand() {
        Check.sentence("MISFIT of the HAND with a BLOCK, TURN t");
        HatWorks x = ringAndHead();
        x.misfit(0, 3);
        Check.due("the hand stays", x.count(4), 12);
        Check.due("and is not turned", x.misfit(0, 0), misfitOf(0));
        Check.due("nor matched", x.count(1), 0);
    }

    private static void misfitBlock() {
        Check.sentence("IndexOutOfBoundsException: no such BLOCK");
        Check.outside("of none", () -> new HatWorks().misfit(0, 0));
        Check.range("misfit of 1 block", 0, 0, IndexOutOfBoundsException.class, RingTest::ringAndHead,
            (x, block) -> x.misfit(block, 0), block -> misfitOf(0));
        Check.range("misfit of 10 blocks", 0, 9, IndexOutOfBoundsException.class, RingTest::tenAndHead,
            (x, block) -> x.misfit(block, 0), block -> 12L * block * block);
    }

    private static HatWorks tenAndHead() {
        HatWorks x = Check.works(100, 101, 102, 103, 104, 105, 106, 107, 108, 109);
        Check.pushSome(x, 12, 100);
        return x;
    }

    private static void misfitRefusals() {
        Check.sentence("misfit: exceptions ahead of NONE, the BLOCK ahead of the TURN");
        HatWorks x = Check.works(100);
        Check.outside("block 1, short hand", () -> x.misfit(1, 0));
        Check.outside("block -1, short hand", () -> x.misfit(-1, 0));
        Check.illegal("turn 12, short hand", () -> x.misfit(0, 12));
        Check.illegal("turn -1, short hand", () -> x.misfit(0, -1));
        Check.outside("block 1, turn 12", () -> x.misfit(1, 12));
        Check.outside("block -1, turn -1", () -> x.misfit(-1, -1));
    }

    private static void matched(String what, HatWorks x, int block, int turn, int misfit) {
        Check.feed(x, "crown 5,felt 1");
        int order = x.order(14, 0, 1);
        Check.due(what + ": order", order, x.count(1) - 1);
        Check.due(what + ": block", x.told(order, 0), block);
        Check.due(what + ": turn", x.told(order, 1), turn);
        Check.due(what + ": misfit", x.told(order, 2), misfit);
    }

    private static void leastMisfit() {
        Check.sentence("A head is MATCHED with the BLOCK and TURN of the least MISFIT");
        HatWorks x = Check.works(100, 104);
        Check.pushSome(x, 12, 101);
        matched("nearer to 0", x, 0, 0, 12);
        Check.pushSome(x, 12, 103);
        matched("nearer to 1", x, 1, 0, 12);
        // 102 is as near to both; one radius more tips it.
        Check.pushPeak(x, 0, 103, 102);
        matched("tipped to 1", x, 1, 0, 45);
        Check.pushPeak(x, 0, 101, 102);
        matched("tipped to 0", x, 0, 0, 45);
        Check.pushSome(x, 12, 102);
        matched("as near", x, 0, 0, 48);
        // A lesser misfit at turn 11 of block 1 goes ahead of a greater at turn 0 of block 0.
        HatWorks y = Check.works(100);
        Check.pushPeak(y, 1, 101, 100);
        y.block();
        Check.pushPeak(y, 0, 101, 100);
        matched("turned far", y, 1, 11, 0);
    }

    private static void leastTurn() {
        Check.sentence("of these the least TURN");
        // The head's peak is at 3: block 0 wants turn 3, block 1 turn 2, block 2 turn 1.
        HatWorks x = new HatWorks();
        for (int at = 0; at < 3; at++) {
            Check.pushPeak(x, at, 110, 100);
            x.block();
        }
        Check.pushPeak(x, 3, 110, 100);
        matched("the least turn, though the block is greater", x, 2, 1, 0);
        Check.pushPeak(x, 2, 110, 100);
        matched("turn 0 of block 2", x, 2, 0, 0);
        Check.pushPeak(x, 0, 110, 100);
        matched("turn 0 of block 0", x, 0, 0, 0);
        // Two peaks, six apart, fit at turns 2 and 8.
        HatWorks y = new HatWorks();
        Check.push(y, 110, 100, 100, 100, 100, 100, 110, 100, 100, 100, 100, 100);
        y.block();
        Check.push(y, 100, 100, 110, 100, 100, 100, 100, 100, 110, 100, 100, 100);
        matched("2, not 8", y, 0, 2, 0);
    }

    private static void leastBlock() {
        Check.sentence("of these the least BLOCK");
        HatWorks x = Check.works(150, 100, 100, 100);
        Check.pushSome(x, 12, 100);
        matched("1 of 1, 2, 3", x, 1, 0, 0);
        Check.pushPeak(x, 5, 110, 100);
        matched("1 of 1, 2, 3, with a misfit", x, 1, 0, 100);
        HatWorks y = new HatWorks();
        Check.pushPeak(y, 0, 110, 100);
        y.block();
        Check.pushPeak(y, 0, 110, 100);
        y.block();
        Check.pushPeak(y, 4, 110, 100);
        matched("block 0 at turn 4", y, 0, 4, 0);
    }

    private static void lastTurnAndBlock() {
        Check.sentence("A head is MATCHED with the BLOCK and TURN of the least MISFIT");
        HatWorks x = Check.works(60, 70, 80, 90, 110, 120, 130, 140, 150);
        Check.pushPeak(x, 1, 105, 100);
        x.block();
        Check.pushPeak(x, 0, 105, 100);
        matched("block 9 at turn 11", x, 9, 11, 0);
        HatWorks y = Check.works(200);
        Check.pushSome(y, 12, 50);
        matched("the only block, the most misfit", y, 0, 0, 270000);
    }

    private static void matchedAsItComes() {
        Check.sentence("each is MATCHED as it comes, with the BLOCKS that are there");
        HatWorks x = Check.works(110);
        Check.pushSome(x, 12, 100);
        matched("the only one there", x, 0, 0, 1200);
        Check.addBlock(x, 100, 100);
        Check.due("a better one that came later", x.told(0, 0), 0);
        Check.due("its misfit", x.told(0, 2), 1200);
        Check.pushSome(x, 12, 100);
        matched("who comes behind it", x, 1, 0, 0);
    }
}
