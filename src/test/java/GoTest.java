/** Promises 8, 9, 10, 14, 17: going, being held, waiting, being late, counting. */
public final class GoTest {
    private static final String SMALL = "crown 5,felt 1"; // 6 in the steamer, 35 on the block
    private static final String LARGE = "crown 10,brim 5,felt 2"; // 17 and 60

    public static void main(String[] args) {
        going();
        heldByBlock();
        heldByBoth();
        notHeld();
        waiting();
        late();
        counting();
        Check.end();
    }

    private static HatWorks works() {
        HatWorks x = new HatWorks();
        Check.addBlock(x, 100, 100);
        Check.addBlock(x, 150, 150);
        return x;
    }

    private static void row(HatWorks x, int order, int state, int start, int done, int held) {
        Check.due("state of " + order, x.told(order, 8), state);
        Check.due("start of " + order, x.told(order, 9), start);
        Check.due("done of " + order, x.told(order, 10), done);
        Check.due("holder of " + order, x.told(order, 11), held);
    }

    private static void going() {
        HatWorks x = works();
        Check.outside("go(0) of none", () -> x.go(0));
        Check.outside("go(-1)", () -> x.go(-1));
        Check.addOrder(x, 100, LARGE, 0, 1);
        Check.addOrder(x, 150, SMALL, 0, 1);
        Check.outside("go(2)", () -> x.go(2));
        row(x, 0, 0, -1, -1, -1);
        Check.due("go(0)", x.go(0), 0);
        Check.due("go(0) again", x.go(0), -1);
        row(x, 0, 1, 0, 77, -1);
        Check.due("steamer", x.count(6), 17);
        Check.due("go(1)", x.go(1), 17);
        row(x, 1, 1, 17, 58, 0);
        Check.due("steamer", x.count(6), 23);
        x.wait(57);
        Check.due("on its block", x.told(1, 8), 1);
        x.wait(1);
        Check.due("done", x.told(1, 8), 2);
        Check.due("go when done", x.go(1), -1);
    }

    private static void heldByBlock() {
        HatWorks x = works();
        Check.addOrder(x, 100, LARGE, 0, 1);
        Check.addOrder(x, 150, SMALL, 0, 1);
        Check.addOrder(x, 100, SMALL, 0, 1);
        x.go(0);
        x.go(1);
        Check.due("the block is free at 77", x.go(2), 71);
        row(x, 2, 1, 71, 112, 0);
        Check.due("steamer", x.count(6), 77);
    }

    private static void heldByBoth() {
        HatWorks x = works();
        // 0 is on block 0 till 41; 1 leaves the steamer at 35, when 2 may start for block 0.
        Check.addOrder(x, 100, SMALL, 0, 1);
        Check.addOrder(x, 150, "crown 5,brim 17,felt 2", 0, 1);
        Check.addOrder(x, 100, SMALL, 0, 1);
        x.go(0);
        Check.due("go(1)", x.go(1), 6);
        Check.due("both are free at once", x.go(2), 35);
        row(x, 2, 1, 35, 76, 1);
    }

    private static void notHeld() {
        HatWorks x = works();
        Check.addOrder(x, 100, SMALL, 0, 1);
        Check.addOrder(x, 100, SMALL, 0, 1);
        Check.addOrder(x, 150, SMALL, 0, 1);
        x.go(0);
        x.wait(35);
        Check.due("free just now", x.go(1), 35);
        row(x, 1, 1, 35, 76, -1);
        x.wait(6);
        Check.due("the steamer is free just now", x.go(2), 41);
        row(x, 2, 1, 41, 82, -1);
        HatWorks y = works();
        Check.addOrder(y, 100, SMALL, 0, 1);
        y.wait(5000);
        Check.due("not ahead of now", y.go(0), 5000);
        row(y, 0, 1, 5000, 5041, -1);
    }

    private static void waiting() {
        HatWorks x = new HatWorks();
        Check.illegal("wait(-1)", () -> x.wait(-1));
        Check.illegal("wait(10001)", () -> x.wait(10001));
        Check.due("wait(0)", x.wait(0), 0);
        Check.due("wait(1)", x.wait(1), 1);
        for (int k = 1; k < 100; k++) {
            Check.due("wait(10000)", x.wait(10000), 10000 * k + 1);
        }
        Check.illegal("above 1,000,000", () -> x.wait(10000));
        Check.due("it stays", x.count(3), 990001);
        Check.due("wait(9999)", x.wait(9999), 1000000);
        Check.illegal("above by one", () -> x.wait(1));
        Check.due("wait(0) at the end", x.wait(0), 1000000);
    }

    private static void late() {
        HatWorks x = works();
        Check.due("none", x.late(0), -1);
        Check.addOrder(x, 100, SMALL, 41, 1);
        Check.addOrder(x, 150, SMALL, 46, 1);
        Check.addOrder(x, 100, SMALL, 10, 1);
        Check.addOrder(x, 100, SMALL, 11, 1);
        x.go(0);
        x.go(1);
        Check.due("done at its due minute is not late", x.told(0, 10), 41);
        Check.due("1 will be late by a minute", x.late(0), 1);
        Check.due("no other", x.late(1), -1);
        x.wait(10);
        Check.due("now is not behind 10", x.late(1), -1);
        x.wait(1);
        Check.due("still 1", x.late(0), 1);
        Check.due("now 2 too", x.late(1), 2);
        Check.due("not 3", x.late(2), -1);
        Check.due("late(-1)", x.late(-1), -1);
        Check.due("late(most)", x.late(Integer.MAX_VALUE), -1);
        x.wait(1000);
        Check.due("those done stay so", x.late(0), 1);
        Check.due("3 came", x.late(2), 3);
        Check.due("three in all", x.late(3), -1);
        HatWorks y = works();
        Check.addOrder(y, 100, SMALL, 0, 1);
        Check.due("due 0 at minute 0", y.late(0), -1);
        y.wait(1);
        Check.due("order 0 is late", y.late(0), 0);
    }

    private static void counting() {
        HatWorks x = works();
        Check.addOrder(x, 100, SMALL, 0, 1);
        Check.addOrder(x, 100, SMALL, 0, 1);
        Check.addOrder(x, 100, SMALL, 0, 1);
        x.go(1);
        x.wait(3);
        x.push(99);
        x.feed(0, 0, 0, 0, 0);
        int[] want = {2, 3, 2, 3, 1, 20, 6};
        for (int what = 0; what <= 6; what++) {
            Check.due("count(" + what + ")", x.count(what), want[what]);
        }
        Check.due("count(-1)", x.count(-1), -1);
        Check.due("count(7)", x.count(7), -1);
        Check.due("count(least)", x.count(Integer.MIN_VALUE), -1);
    }
}
