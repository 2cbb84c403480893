/** Promises 11, 12, 13: the plan, what is planned, and its run. */
public final class PlanTest {
    private static final String SMALL = "crown 5,felt 1"; // 6 in the steamer, 35 on the block
    private static final String LARGE = "crown 10,brim 5,felt 2"; // 17 and 60

    public static void main(String[] args) {
        none();
        weighed();
        firstOfEquals();
        firstSeven();
        asItIsNow();
        running();
        Check.end();
    }

    private static HatWorks works() {
        HatWorks x = new HatWorks();
        Check.addBlock(x, 100, 100);
        Check.addBlock(x, 150, 150);
        return x;
    }

    private static void none() {
        HatWorks x = works();
        Check.due("plan", x.plan(), 0);
        Check.due("planned", x.planned(0), -1);
        Check.due("run", x.run(), 0);
        Check.addOrder(x, 100, SMALL, 0, 1);
        x.go(0);
        Check.due("plan when all went", x.plan(), 0);
        Check.due("planned when all went", x.planned(0), -1);
        Check.due("run when all went", x.run(), 0);
    }

    private static void weighed() {
        HatWorks x = works();
        Check.addOrder(x, 100, LARGE, 0, 1);
        Check.addOrder(x, 100, SMALL, 0, 1);
        // 0 steams while 1 is still on the block, so it starts at 24; 0 ahead of 1 would be 77 and 112.
        Check.due("plan", x.plan(), 41 + 101);
        Check.due("planned(0)", x.planned(0), 1);
        Check.due("planned(1)", x.planned(1), 0);
        Check.due("planned(2)", x.planned(2), -1);
        Check.due("planned(-1)", x.planned(-1), -1);
        Check.due("planned(least)", x.planned(Integer.MIN_VALUE), -1);
        HatWorks y = works();
        Check.addOrder(y, 100, LARGE, 0, 9);
        Check.addOrder(y, 100, SMALL, 0, 1);
        Check.due("the weight counts", y.plan(), 9 * 77 + 112);
        Check.due("0 goes first", y.planned(0), 0);
    }

    private static void firstOfEquals() {
        HatWorks x = works();
        Check.addOrder(x, 100, SMALL, 0, 3);
        Check.addOrder(x, 100, SMALL, 0, 3);
        Check.addOrder(x, 100, SMALL, 0, 3);
        Check.due("plan", x.plan(), 3 * (41 + 76 + 111));
        for (int k = 0; k < 3; k++) {
            Check.due("planned(" + k + ")", x.planned(k), k);
        }
    }

    private static void firstSeven() {
        HatWorks x = works();
        for (int k = 0; k < 9; k++) {
            Check.addOrder(x, 100, SMALL, 0, k == 8 ? 9 : 1);
        }
        x.go(2);
        // The block is free at 41; 0, 1, 3, 4, 5, 6, 7 are done at 76, 111, .. 286.
        Check.due("plan", x.plan(), 76 + 111 + 146 + 181 + 216 + 251 + 286);
        int[] want = {0, 1, 3, 4, 5, 6, 7, -1};
        for (int k = 0; k < 8; k++) {
            Check.due("planned(" + k + ")", x.planned(k), want[k]);
        }
        Check.due("run", x.run(), 7);
        Check.due("8 waits", x.told(8, 8), 0);
        Check.due("7 went", x.told(7, 10), 286);
        Check.due("run again", x.run(), 1);
        Check.due("8 went", x.told(8, 10), 321);
    }

    private static void asItIsNow() {
        HatWorks x = works();
        Check.addOrder(x, 100, LARGE, 0, 1);
        Check.due("plan of one", x.plan(), 77);
        x.wait(10);
        Check.due("plan later", x.plan(), 87);
        Check.addOrder(x, 150, SMALL, 0, 1);
        Check.due("plan of two", x.plan(), 10 + 6 + 35 + 10 + 6 + 77);
        Check.due("planned of two", x.planned(0), 1);
        x.go(1);
        Check.due("planned of what is left", x.planned(0), 0);
        Check.due("nothing behind it", x.planned(1), -1);
        Check.due("plan behind the steamer", x.plan(), 16 + 77);
        Check.due("planning lets none go", x.count(2), 1);
    }

    private static void running() {
        HatWorks x = works();
        Check.addOrder(x, 100, LARGE, 0, 1);
        Check.addOrder(x, 100, SMALL, 0, 1);
        Check.addOrder(x, 150, LARGE, 0, 9);
        x.wait(100);
        Check.due("plan", x.plan(), 9 * 177 + 158 + 218);
        Check.due("run", x.run(), 3);
        int[] start = {141, 117, 100};
        int[] held = {1, 2, -1};
        for (int k = 0; k < 3; k++) {
            Check.due("start of " + k, x.told(k, 9), start[k]);
            Check.due("holder of " + k, x.told(k, 11), held[k]);
        }
        Check.due("none waits", x.count(2), 0);
        Check.due("steamer", x.count(6), 158);
        Check.due("went on block 0", x.wear(0, 0), 2);
    }
}
