/** Promises 1, 2, 3, 7 and the matching of 8: hand, blocks, misfit. */
public final class RingTest {
    public static void main(String[] args) {
        newObject();
        hand();
        blocks();
        misfit();
        matched();
        Check.end();
    }

    private static void newObject() {
        HatWorks x = new HatWorks();
        for (int what = 0; what <= 6; what++) {
            Check.due("new count(" + what + ")", x.count(what), 0);
        }
        Check.due("new fault", x.fault(), -1);
        Check.due("new plan", x.plan(), 0);
        Check.due("new planned", x.planned(0), -1);
        Check.due("new run", x.run(), 0);
        Check.due("new late", x.late(0), -1);
        Check.outside("new told", () -> x.told(0, 0));
        Check.outside("new wear", () -> x.wear(0, 0));
    }

    private static void hand() {
        HatWorks x = new HatWorks();
        Check.illegal("push(49)", () -> x.push(49));
        Check.illegal("push(201)", () -> x.push(201));
        Check.illegal("push(least)", () -> x.push(Integer.MIN_VALUE));
        Check.illegal("push(most)", () -> x.push(Integer.MAX_VALUE));
        Check.due("nothing pushed", x.count(4), 0);
        Check.due("push(50)", x.push(50), 1);
        Check.due("push(200)", x.push(200), 2);
        for (int i = 3; i <= 12; i++) {
            Check.due("push", x.push(100), i);
        }
        Check.due("push a 13th", x.push(100), -1);
        Check.due("still 12", x.count(4), 12);
        Check.illegal("push(49) on a full hand", () -> x.push(49));
    }

    private static void blocks() {
        HatWorks x = new HatWorks();
        for (int i = 0; i < 11; i++) {
            x.push(100);
        }
        Check.due("block of 11", x.block(), -1);
        Check.due("the hand stays", x.count(4), 11);
        Check.due("no block", x.count(0), 0);
        x.push(100);
        for (int i = 0; i < 10; i++) {
            Check.due("block", x.block(), i);
            Check.due("the hand is empty", x.count(4), 0);
            Check.pushRing(x, 100, 100);
        }
        Check.throwing("an 11th", IllegalStateException.class, () -> x.block());
        Check.due("the hand stays at 10", x.count(4), 12);
        Check.due("10 blocks", x.count(0), 10);
        HatWorks y = new HatWorks();
        for (int i = 0; i < 10; i++) {
            Check.addBlock(y, 100, 100);
        }
        Check.throwing("an 11th of an empty hand", IllegalStateException.class, () -> y.block());
    }

    private static void misfit() {
        HatWorks x = new HatWorks();
        Check.outside("no block at all", () -> x.misfit(0, 0));
        int[] ring = {50, 60, 70, 80, 90, 100, 110, 120, 130, 140, 150, 200};
        for (int radius : ring) {
            x.push(radius);
        }
        x.block();
        Check.due("empty hand", x.misfit(0, 0), -1);
        Check.outside("block 1, empty hand", () -> x.misfit(1, 0));
        Check.illegal("turn 12, empty hand", () -> x.misfit(0, 12));
        int[] head = {51, 75, 199, 50, 88, 120, 133, 61, 97, 144, 180, 160};
        for (int radius : head) {
            x.push(radius);
        }
        for (int turn = 0; turn < 12; turn++) {
            int sum = 0;
            for (int i = 0; i < 12; i++) {
                int off = head[(i + turn) % 12] - ring[i];
                sum += off * off;
            }
            Check.due("misfit turn " + turn, x.misfit(0, turn), sum);
        }
        Check.due("the hand stays", x.count(4), 12);
        Check.illegal("turn -1", () -> x.misfit(0, -1));
        Check.illegal("turn 12", () -> x.misfit(0, 12));
        Check.outside("block -1", () -> x.misfit(-1, 0));
        Check.outside("block 1", () -> x.misfit(1, 0));
        Check.outside("block before turn", () -> x.misfit(1, 12));
    }

    private static void matched() {
        HatWorks x = new HatWorks();
        // The head's high place is at 3: turn 3 for block 0; block 1 has it at 2, so turn 1.
        Check.addBlock(x, 110, 100);
        x.push(100);
        x.push(100);
        x.push(110);
        for (int i = 3; i < 12; i++) {
            x.push(100);
        }
        x.block();
        x.push(100);
        x.push(100);
        x.push(100);
        x.push(110);
        for (int i = 4; i < 12; i++) {
            x.push(100);
        }
        Check.feed(x, "crown 5,felt 1");
        Check.due("order", x.order(14, 0, 1), 0);
        Check.due("the least turn comes first", x.told(0, 0), 1);
        Check.due("turn", x.told(0, 1), 1);
        Check.due("misfit", x.told(0, 2), 0);
        Check.addBlock(x, 100, 100);
        Check.due("matched with what was there", x.told(0, 0), 1);
        // Two like blocks: of one turn the lesser block.
        Check.addBlock(x, 100, 100);
        Check.due("order", Check.addOrder(x, 100, "crown 5,felt 1", 0, 1), 1);
        Check.due("the least block", x.told(1, 0), 2);
        Check.due("turn 0", x.told(1, 1), 0);
        HatWorks y = new HatWorks();
        Check.addBlock(y, 200, 200);
        Check.due("order", Check.addOrder(y, 50, "crown 5,felt 1", 0, 1), 0);
        Check.due("the only block", y.told(0, 0), 0);
        Check.due("the most misfit", y.told(0, 2), 270000);
    }
}
