/** Terms ==== 4 and promises 11, 12, 13: the plan, what is planned, and its run. */
public final class PlanTest {
    private static final String SMALL = "crown 5,felt 1"; // 6 in the steamer, 35 on the block
    private static final String MIDDLE = "crown 5,felt 2"; // 12 and 55
    private static final String LARGE = "crown 10,brim 5,felt 2"; // 17 and 60

    public static void main(String[] args) {
        noneWaits();
        one();
        weighed();
        leastCost();
        firstOfEquals();
        firstOfEqualsBehindOthers();
        equalCostsOfUnlike();
        upToSeven();
        firstSevenThatWait();
        fromNowOn();
        behindThoseThatWent();
        plannedPlaces();
        plannedAsItIsNow();
        runsAll();
        runsAsPlanned();
        atTheLastMinute();
        Check.end();
    }

    private static HatWorks works() {
        return Check.works(100, 150);
    }

    private static void planned(String what, HatWorks x, int... want) {
        for (int k = 0; k < want.length; k++) {
            Check.due(what + ", planned(" + k + ")", x.planned(k), want[k]);
        }
        Check.due(what + ", behind the last", x.planned(want.length), -1);
    }

    private static void noneWaits() {
        Check.sentence("COST of BEST; 0 if none WAITS.");
        HatWorks x = works();
        Check.due("no order", x.plan(), 0);
        planned("no order", x);
        Check.due("run", x.run(), 0);
        Check.addOrder(x, 100, SMALL, 0, 1);
        x.go(0);
        Check.due("all went", x.plan(), 0);
        planned("all went", x);
        Check.due("run", x.run(), 0);
        x.wait(100);
        Check.due("all are done", x.plan(), 0);
        HatWorks y = works();
        Check.addOrder(y, 100, SMALL, 0, 1);
        y.plan();
        y.run();
        Check.due("behind a run", y.plan(), 0);
        planned("behind a run", y);
    }

    private static void one() {
        Check.sentence("COST is the sum of WEIGHT times the minute when it is DONE");
        int[] weights = {1, 2, 8, 9};
        for (int weight : weights) {
            HatWorks x = works();
            Check.addOrder(x, 100, SMALL, 0, weight);
            Check.due("plan", x.plan(), 41 * weight);
            planned("one", x, 0);
        }
    }

    private static void weighed() {
        Check.sentence("COST is the sum of WEIGHT times the minute when it is DONE");
        HatWorks x = works();
        Check.addOrder(x, 100, LARGE, 0, 1);
        Check.addOrder(x, 100, SMALL, 0, 1);
        // 0 steams while 1 is still on the block, so it starts at 24; 0 ahead of 1 would be 77 and 112.
        Check.due("plan", x.plan(), 41 + 101);
        planned("the small one first", x, 1, 0);
        HatWorks y = works();
        Check.addOrder(y, 100, LARGE, 0, 9);
        Check.addOrder(y, 100, SMALL, 0, 1);
        Check.due("the weight counts", y.plan(), 9 * 77 + 112);
        planned("the heavy one first", y, 0, 1);
    }

    private static void leastCost() {
        Check.sentence("BEST: the least COST");
        // With LARGE first 77 w + 112 v, else 101 w + 41 v: the first is less when 71 v < 24 w.
        for (int v = 1; v <= 3; v++) {
            for (int w = 1; w <= 9; w++) {
                HatWorks x = works();
                Check.addOrder(x, 100, SMALL, 0, v);
                Check.addOrder(x, 100, LARGE, 0, w);
                boolean large = 71 * v < 24 * w;
                Check.due("weights " + v + ", " + w, x.plan(), large ? 77 * w + 112 * v : 101 * w + 41 * v);
                planned("weights " + v + ", " + w, x, large ? 1 : 0, large ? 0 : 1);
            }
        }
    }

    private static void firstOfEquals() {
        Check.sentence("of these the first (by their numbers, one behind another)");
        HatWorks x = works();
        for (int k = 0; k < 7; k++) {
            Check.addOrder(x, 100, SMALL, 0, 3);
        }
        Check.due("plan", x.plan(), 3 * (41 + 76 + 111 + 146 + 181 + 216 + 251));
        planned("seven alike", x, 0, 1, 2, 3, 4, 5, 6);
    }

    private static void firstOfEqualsBehindOthers() {
        Check.sentence("of these the first (by their numbers, one behind another)");
        HatWorks x = works();
        Check.addOrder(x, 100, LARGE, 0, 1);
        Check.addOrder(x, 100, SMALL, 0, 9);
        Check.addOrder(x, 100, SMALL, 0, 9);
        planned("1, 2 ahead of 0", x, 1, 2, 0);
        HatWorks y = works();
        Check.addOrder(y, 100, SMALL, 0, 9);
        Check.addOrder(y, 100, LARGE, 0, 1);
        Check.addOrder(y, 100, SMALL, 0, 9);
        planned("0, 2 ahead of 1", y, 0, 2, 1);
        HatWorks z = works();
        Check.addOrder(z, 100, LARGE, 0, 1);
        Check.addOrder(z, 100, SMALL, 0, 9);
        Check.addOrder(z, 100, LARGE, 0, 1);
        planned("0, 2 behind 1", z, 1, 0, 2);
    }

    private static void equalCostsOfUnlike() {
        Check.sentence("of these the first (by their numbers, one behind another)");
        // On blocks of their own: MIDDLE first costs 67 w + 53, SMALL first 41 + 73 w; the same if w is 2.
        int[][] want = {{1, 0, 0, 1}, {0, 1, 0, 1}, {0, 1, 1, 0}};
        for (int w = 1; w <= 3; w++) {
            int cost = Math.min(67 * w + 53, 41 + 73 * w);
            HatWorks x = works();
            Check.addOrder(x, 100, MIDDLE, 0, w);
            Check.addOrder(x, 150, SMALL, 0, 1);
            Check.due("MIDDLE is 0, weight " + w, x.plan(), cost);
            planned("MIDDLE is 0, weight " + w, x, want[w - 1][0], want[w - 1][1]);
            HatWorks y = works();
            Check.addOrder(y, 150, SMALL, 0, 1);
            Check.addOrder(y, 100, MIDDLE, 0, w);
            Check.due("MIDDLE is 1, weight " + w, y.plan(), cost);
            planned("MIDDLE is 1, weight " + w, y, want[w - 1][2], want[w - 1][3]);
        }
    }

    private static void upToSeven() {
        Check.sentence("of the first seven ORDERS that WAIT, by their numbers");
        long cost = 0;
        for (int many = 1; many <= 9; many++) {
            HatWorks x = works();
            // The later, the heavier: the last of those planned goes first.
            for (int k = 0; k < many; k++) {
                Check.addOrder(x, 100, SMALL, 0, k + 1);
            }
            int size = Math.min(many, 7);
            cost = 0;
            for (int k = 0; k < size; k++) {
                cost += (long) (size - k) * (41 + 35 * k);
            }
            Check.due("plan of " + many, x.plan(), cost);
            for (int k = 0; k < size; k++) {
                Check.due("planned(" + k + ") of " + many, x.planned(k), size - 1 - k);
            }
            Check.due("no more of " + many, x.planned(size), -1);
            Check.due("run of " + many, x.run(), size);
            Check.due("those that still wait", x.count(2), many - size);
            Check.due("run again", x.run(), many - size);
        }
    }

    private static void firstSevenThatWait() {
        Check.sentence("of the first seven ORDERS that WAIT, by their numbers");
        HatWorks x = works();
        for (int k = 0; k < 10; k++) {
            Check.addOrder(x, 100, SMALL, 0, k == 9 ? 9 : 1);
        }
        x.go(2);
        x.go(0);
        // The block is free at 76; 1, 3, .. 8 are done at 111, 146, .. 321.
        Check.due("plan", x.plan(), 111 + 146 + 181 + 216 + 251 + 286 + 321);
        planned("those that went don't count", x, 1, 3, 4, 5, 6, 7, 8);
        Check.due("run", x.run(), 7);
        Check.due("9 waits", x.told(9, 8), 0);
        Check.due("8 went", x.told(8, 10), 321);
        Check.due("plan of what is left", x.plan(), 9 * 356);
        planned("what is left", x, 9);
        Check.due("run again", x.run(), 1);
        Check.due("9 went", x.told(9, 10), 356);
    }

    private static void fromNowOn() {
        Check.sentence("all orders in which they may GO now, one behind another");
        HatWorks x = works();
        Check.addOrder(x, 100, SMALL, 0, 2);
        Check.due("at 0", x.plan(), 82);
        x.wait(1);
        Check.due("at 1", x.plan(), 84);
        x.wait(9999);
        Check.due("at 10,000", x.plan(), 20082);
        Check.due("planning lets none go", x.count(2), 1);
    }

    private static void behindThoseThatWent() {
        Check.sentence("all orders in which they may GO now, one behind another");
        HatWorks x = works();
        Check.addOrder(x, 100, LARGE, 0, 1);
        Check.addOrder(x, 100, SMALL, 0, 1);
        Check.addOrder(x, 150, SMALL, 0, 1);
        x.go(0);
        // Block 0 is free from 77, the steamer from 17: 2 starts at 17, 1 at 71.
        Check.due("plan", x.plan(), 58 + 112);
        planned("2 need not wait for block 0", x, 2, 1);
        x.wait(75);
        Check.due("later", x.plan(), 116 + 122);
        planned("1 and 2 are alike now", x, 1, 2);
    }

    private static void plannedPlaces() {
        Check.sentence("The k-th ORDER of BEST, from 0 on; NONE.");
        HatWorks x = works();
        for (int k = 0; k < 3; k++) {
            Check.addOrder(x, 100, SMALL, 0, 1);
        }
        int[] places = {Integer.MIN_VALUE, -1, 0, 1, 2, 3, 6, 7, Integer.MAX_VALUE};
        int[] want = {-1, -1, 0, 1, 2, -1, -1, -1, -1};
        for (int k = 0; k < places.length; k++) {
            Check.due("planned(" + places[k] + ")", x.planned(places[k]), want[k]);
        }
        HatWorks y = works();
        for (int k = 0; k < 8; k++) {
            Check.addOrder(y, 100, SMALL, 0, 1);
        }
        Check.due("planned(6) of 8", y.planned(6), 6);
        Check.due("planned(7) of 8", y.planned(7), -1);
    }

    private static void plannedAsItIsNow() {
        Check.sentence("planned: BEST as it is at that call, without a plan() ahead of it");
        HatWorks x = works();
        Check.addOrder(x, 100, LARGE, 0, 1);
        planned("no plan was asked", x, 0);
        Check.due("plan of one", x.plan(), 77);
        x.wait(10);
        Check.due("plan later", x.plan(), 87);
        Check.addOrder(x, 150, SMALL, 0, 1);
        planned("behind an order", x, 1, 0);
        Check.due("plan of two", x.plan(), 51 + 93);
        x.go(1);
        planned("behind a go", x, 0);
        Check.due("plan behind the steamer", x.plan(), 93);
        Check.addBlock(x, 60, 60);
        planned("behind a block", x, 0);
    }

    private static void runsAll() {
        Check.sentence("All of BEST GO, one behind another: how many.");
        HatWorks x = works();
        Check.addOrder(x, 100, LARGE, 0, 1);
        Check.addOrder(x, 100, SMALL, 0, 1);
        Check.addOrder(x, 150, LARGE, 0, 9);
        x.wait(100);
        Check.due("run", x.run(), 3);
        int[] start = {141, 117, 100};
        int[] done = {218, 158, 177};
        int[] held = {1, 2, -1};
        for (int k = 0; k < 3; k++) {
            Check.due("state of " + k, x.told(k, 8), 1);
            Check.due("start of " + k, x.told(k, 9), start[k]);
            Check.due("done of " + k, x.told(k, 10), done[k]);
            Check.due("holder of " + k, x.told(k, 11), held[k]);
        }
        Check.due("none waits", x.count(2), 0);
        Check.due("steamer", x.count(6), 158);
        Check.due("went on block 0", x.wear(0, 0), 2);
        Check.due("went on block 1", x.wear(1, 0), 1);
        Check.due("no minute goes by", x.count(3), 100);
    }

    private static void runsAsPlanned() {
        Check.sentence("All of BEST GO, one behind another: how many.");
        String[] hats = {LARGE, SMALL, MIDDLE, "crown 9,felt 3,brim 2", SMALL, LARGE, MIDDLE};
        HatWorks x = works();
        for (int k = 0; k < 7; k++) {
            Check.addOrder(x, k % 3 == 0 ? 150 : 100, hats[k], 0, 1 + 4 * k % 9);
        }
        long cost = x.plan();
        int[] row = new int[7];
        for (int k = 0; k < 7; k++) {
            row[k] = x.planned(k);
        }
        Check.due("run", x.run(), 7);
        long sum = 0;
        for (int k = 0; k < 7; k++) {
            sum += (long) x.told(k, 7) * x.told(k, 10);
            Check.due("one behind another", k == 0 || x.told(row[k], 9) > x.told(row[k - 1], 9) ? 1 : 0, 1);
        }
        Check.due("the cost that was told", sum, cost);
    }

    private static void atTheLastMinute() {
        Check.sentence("COST is the sum of WEIGHT times the minute when it is DONE");
        HatWorks x = works();
        for (int k = 0; k < 100; k++) {
            x.wait(10000);
        }
        for (int k = 0; k < 7; k++) {
            Check.addOrder(x, 100, "crown 30,brim 20,band 9,felt 5", 1000000, 9);
        }
        // Done at 190, 330, .. 1030 behind 1,000,000.
        Check.due("the dearest plan", x.plan(), 63000000L + 9 * 4270);
        Check.due("run", x.run(), 7);
        Check.due("the last is done", x.told(6, 10), 1001030);
    }
}
