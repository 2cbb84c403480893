/** Terms ==== 3 and promises 9, 10, 14, 17: going, being held, waiting, being late, counting. */
public final class GoTest {
    private static final String SMALL = "crown 5,felt 1"; // 6 in the steamer, 35 on the block
    private static final String LARGE = "crown 10,brim 5,felt 2"; // 17 and 60

    public static void main(String[] args) {
        goesAtNow();
        freeFromTheFirst();
        steamerIsFree();
        blockIsFree();
        steamerThenBlock();
        leavesSteamerAndBlock();
        goesOnce();
        goOrder();
        goesInAnyOrder();
        heldLaterThanNow();
        heldBySteamerOrBlock();
        heldByTheLatest();
        heldByNoneOnAFreshBlock();
        heldStays();
        minutes();
        lastMinute();
        waitIsRefused();
        lateWhileWaiting();
        lateWhenDone();
        lateStillToCome();
        lateOfTheKth();
        lateAtTheLastMinute();
        counts();
        countsWaiting();
        countsSteamer();
        countsOthers();
        Check.end();
    }

    private static HatWorks works() {
        return Check.works(100, 150);
    }

    private static void row(HatWorks x, int order, int start, int done, int held) {
        Check.due("start of " + order, x.told(order, 9), start);
        Check.due("done of " + order, x.told(order, 10), done);
        Check.due("holder of " + order, x.told(order, 11), held);
    }

    private static void goesAtNow() {
        Check.sentence("It WAITS, till it GOES: at the first minute from NOW on");
        int[] nows = {0, 1, 9999, 10000};
        for (int now : nows) {
            HatWorks x = works();
            Check.addOrder(x, 100, SMALL, 0, 1);
            x.wait(now);
            Check.due("go at " + now, x.go(0), now);
            row(x, 0, now, now + 41, -1);
        }
    }

    private static void freeFromTheFirst() {
        Check.sentence("The STEAMER is free .. a BLOCK likewise (from 0 on at first)");
        HatWorks x = works();
        Check.due("the steamer", x.count(6), 0);
        Check.addOrder(x, 150, SMALL, 0, 1);
        Check.due("go at 0", x.go(0), 0);
        row(x, 0, 0, 41, -1);
        // A block that is made later is free from 0 on, too.
        x.wait(6);
        Check.addBlock(x, 70, 70);
        Check.addOrder(x, 70, SMALL, 0, 1);
        Check.due("a new block", x.go(1), 6);
        row(x, 1, 6, 47, -1);
    }

    private static void steamerIsFree() {
        Check.sentence("at which the STEAMER is free");
        int[] nows = {0, 4, 5, 6, 7, 8};
        for (int now : nows) {
            HatWorks x = works();
            Check.addOrder(x, 100, SMALL, 0, 1);
            Check.addOrder(x, 150, SMALL, 0, 1);
            x.go(0);
            x.wait(now);
            int start = Math.max(now, 6);
            Check.due("go at " + now, x.go(1), start);
            row(x, 1, start, start + 41, now < 6 ? 0 : -1);
        }
    }

    private static void blockIsFree() {
        Check.sentence("and its BLOCK is free at that minute and its STEAM minutes");
        // Block 0 is free from 41 on; a hat of 6 minutes' steam may start at 35.
        int[] nows = {0, 12, 33, 34, 35, 36, 41};
        for (int now : nows) {
            HatWorks x = works();
            Check.addOrder(x, 100, SMALL, 0, 1);
            Check.addOrder(x, 150, SMALL, 0, 1);
            Check.addOrder(x, 100, SMALL, 0, 1);
            x.go(0);
            x.go(1);
            x.wait(now);
            int start = Math.max(now, 35);
            Check.due("go at " + now, x.go(2), start);
            row(x, 2, start, start + 41, now < 35 ? 0 : -1);
        }
    }

    private static void steamerThenBlock() {
        Check.sentence("so long it is in the STEAMER, then so many ON minutes on its BLOCK; behind them it is DONE");
        HatWorks x = works();
        Check.addOrder(x, 100, LARGE, 0, 1);
        Check.addOrder(x, 100, "crown 30,brim 20,band 9,felt 5", 0, 1);
        Check.addOrder(x, 100, SMALL, 0, 1);
        Check.due("go(0)", x.go(0), 0);
        row(x, 0, 0, 77, -1);
        Check.due("50 minutes ahead of the block's 77", x.go(1), 27);
        row(x, 1, 27, 217, 0);
        Check.due("6 minutes ahead of the block's 217", x.go(2), 211);
        row(x, 2, 211, 252, 1);
    }

    private static void leavesSteamerAndBlock() {
        Check.sentence("The STEAMER is free from when the latest one that went there leaves it, a BLOCK likewise");
        HatWorks x = works();
        Check.addOrder(x, 100, LARGE, 0, 1);
        Check.addOrder(x, 150, SMALL, 0, 1);
        Check.addOrder(x, 150, SMALL, 0, 1);
        x.go(0);
        Check.due("steamer", x.count(6), 17);
        Check.due("go(1)", x.go(1), 17);
        Check.due("steamer", x.count(6), 23);
        Check.due("go(2), its block is free from 58", x.go(2), 52);
        Check.due("steamer", x.count(6), 58);
        // The gap from 23 to 52 is not given to who comes behind.
        Check.addOrder(x, 100, SMALL, 0, 1);
        Check.due("behind the latest, not in the gap", x.go(3), 71);
        HatWorks y = Check.works(100, 150, 60);
        Check.addOrder(y, 100, SMALL, 0, 1);
        Check.addOrder(y, 100, SMALL, 0, 1);
        Check.addOrder(y, 60, SMALL, 0, 1);
        y.go(0);
        y.go(1);
        Check.due("a free block, but no gap", y.go(2), 41);
        row(y, 2, 41, 82, 1);
    }

    private static void goesOnce() {
        Check.sentence("An ORDER GOES: when it starts; NONE: it doesn't WAIT.");
        HatWorks x = works();
        Check.addOrder(x, 100, SMALL, 0, 1);
        Check.due("it waits", x.go(0), 0);
        Check.due("it went", x.go(0), -1);
        x.wait(41);
        Check.due("it is done", x.go(0), -1);
        Check.addOrder(x, 100, SMALL, 0, 1);
        x.run();
        Check.due("it went by run", x.go(1), -1);
        row(x, 1, 41, 82, -1);
        Check.due("two went", x.wear(0, 0), 2);
    }

    private static void goOrder() {
        Check.sentence("go: IndexOutOfBoundsException: no such ORDER");
        Check.outside("of none", () -> works().go(0));
        Check.range("go of 1", 0, 0, IndexOutOfBoundsException.class, () -> waiting(1), HatWorks::go, order -> 0);
        Check.range("go of 3", 0, 2, IndexOutOfBoundsException.class, () -> waiting(3), HatWorks::go, order -> 0);
    }

    private static HatWorks waiting(int many) {
        HatWorks x = works();
        for (int k = 0; k < many; k++) {
            Check.addOrder(x, 100, SMALL, 0, 1);
        }
        return x;
    }

    private static void goesInAnyOrder() {
        Check.sentence("An ORDER GOES: when it starts");
        HatWorks x = waiting(3);
        Check.due("the last first", x.go(2), 0);
        Check.due("then the first", x.go(0), 35);
        Check.due("then the middle", x.go(1), 70);
        row(x, 0, 35, 76, 2);
        row(x, 1, 70, 111, 0);
    }

    private static void heldLaterThanNow() {
        Check.sentence("HELD is an ORDER that GOES later than NOW");
        for (int now = 34; now <= 36; now++) {
            HatWorks x = waiting(2);
            x.go(0);
            x.wait(now);
            x.go(1);
            Check.due("held at " + now, x.told(1, 11), now < 35 ? 0 : -1);
        }
        for (int now = 5; now <= 7; now++) {
            HatWorks x = works();
            Check.addOrder(x, 100, SMALL, 0, 1);
            Check.addOrder(x, 150, SMALL, 0, 1);
            x.go(0);
            x.wait(now);
            x.go(1);
            Check.due("held by the steamer at " + now, x.told(1, 11), now < 6 ? 0 : -1);
        }
    }

    private static void heldBySteamerOrBlock() {
        Check.sentence("by the latest one that went through the STEAMER, if that leaves it not ahead of when this one"
            + " starts; else by the latest one that went on its BLOCK");
        // Order 1 leaves the steamer at 12; order 0 leaves block 0 at 41, 29 minutes behind that.
        int[] start = {14, 13, 12, 12, 12};
        int[] held = {0, 0, 1, 1, 1};
        for (int k = 0; k < 5; k++) {
            HatWorks x = works();
            Check.addOrder(x, 100, SMALL, 0, 1);
            Check.addOrder(x, 150, SMALL, 0, 1);
            Check.addOrder(x, 100, "crown 5,felt 4,brim " + (3 + k), 0, 1);
            x.go(0);
            x.go(1);
            Check.due("steam of " + (27 + k), x.told(2, 4), 27 + k);
            Check.due("go", x.go(2), start[k]);
            row(x, 2, start[k], start[k] + 122 + k, held[k]);
        }
    }

    private static void heldByTheLatest() {
        Check.sentence("by the latest one that went");
        HatWorks x = works();
        for (int k = 0; k < 3; k++) {
            Check.addOrder(x, 100, SMALL, 0, 1);
        }
        Check.addOrder(x, 150, SMALL, 0, 1);
        Check.addOrder(x, 150, SMALL, 0, 1);
        x.go(1);
        x.go(0);
        Check.due("on block 0 behind 0, not 1", x.go(2), 70);
        row(x, 2, 70, 111, 0);
        Check.due("through the steamer behind 2", x.go(4), 76);
        row(x, 4, 76, 117, 2);
        Check.due("on block 1 behind 4", x.go(3), 111);
        row(x, 3, 111, 152, 4);
    }

    private static void heldByNoneOnAFreshBlock() {
        Check.sentence("11: NONE also when it wasn't");
        HatWorks x = works();
        Check.addOrder(x, 100, SMALL, 0, 1);
        x.go(0);
        Check.due("the first of all", x.told(0, 11), -1);
        x.wait(100);
        Check.addOrder(x, 100, SMALL, 0, 1);
        x.go(1);
        row(x, 1, 100, 141, -1);
    }

    private static void heldStays() {
        Check.sentence("by which ORDER it was HELD");
        HatWorks x = waiting(3);
        x.go(0);
        x.go(1);
        x.go(2);
        x.wait(10000);
        row(x, 0, 0, 41, -1);
        row(x, 1, 35, 76, 0);
        row(x, 2, 70, 111, 1);
    }

    private static void minutes() {
        Check.sentence("So many minutes go by: NOW. IllegalArgumentException: they are not 0 to 10,000");
        Check.range("wait", 0, 10000, IllegalArgumentException.class, HatWorks::new, HatWorks::wait, m -> m);
        HatWorks x = new HatWorks();
        Check.due("wait(3)", x.wait(3), 3);
        Check.due("wait(0)", x.wait(0), 3);
        Check.due("wait(4)", x.wait(4), 7);
        Check.due("count(3)", x.count(3), 7);
    }

    private static HatWorks near(int minutes) {
        HatWorks x = new HatWorks();
        for (int k = 0; k < 99; k++) {
            x.wait(10000);
        }
        x.wait(minutes);
        return x;
    }

    private static void lastMinute() {
        Check.sentence("or it would be above 1,000,000");
        Check.due("990,000 and 10,000", near(0).wait(10000), 1000000);
        Check.illegal("990,001 and 10,000", () -> near(1).wait(10000));
        Check.due("990,001 and 9,999", near(1).wait(9999), 1000000);
        Check.illegal("999,999 and 2", () -> near(9999).wait(2));
        Check.due("999,999 and 1", near(9999).wait(1), 1000000);
        Check.due("999,999 and 0", near(9999).wait(0), 999999);
        Check.illegal("1,000,000 and 1", () -> near(10000).wait(1));
        Check.due("1,000,000 and 0", near(10000).wait(0), 1000000);
    }

    private static void waitIsRefused() {
        Check.sentence("a refused wait lets no minute go by");
        HatWorks x = near(9999);
        Check.illegal("wait(2)", () -> x.wait(2));
        Check.illegal("wait(-1)", () -> x.wait(-1));
        Check.illegal("wait(10001)", () -> x.wait(10001));
        Check.due("count(3)", x.count(3), 999999);
    }

    private static void lateWhileWaiting() {
        Check.sentence("LATE is an ORDER that WAITS while NOW is behind its DUE minute");
        for (int now = 9; now <= 11; now++) {
            HatWorks x = works();
            Check.addOrder(x, 100, SMALL, 10, 1);
            x.wait(now);
            Check.due("due 10 at " + now, x.late(0), now > 10 ? 0 : -1);
        }
        HatWorks y = works();
        Check.addOrder(y, 100, SMALL, 0, 1);
        Check.due("due 0 at 0", y.late(0), -1);
        y.wait(1);
        Check.due("due 0 at 1", y.late(0), 0);
        HatWorks z = works();
        z.wait(5);
        Check.addOrder(z, 100, SMALL, 4, 1);
        Check.due("late as it comes", z.late(0), 0);
    }

    private static void lateWhenDone() {
        Check.sentence("or one that went and is DONE behind that");
        for (int due = 40; due <= 42; due++) {
            HatWorks x = works();
            Check.addOrder(x, 100, SMALL, due, 1);
            x.go(0);
            x.wait(41);
            Check.due("done at 41, due " + due, x.late(0), due < 41 ? 0 : -1);
            x.wait(1000);
            Check.due("it stays so, due " + due, x.late(0), due < 41 ? 0 : -1);
        }
    }

    private static void lateStillToCome() {
        Check.sentence("(also if that is still to come)");
        for (int due = 40; due <= 42; due++) {
            HatWorks x = works();
            Check.addOrder(x, 100, SMALL, due, 1);
            Check.due("it waits", x.late(0), -1);
            x.go(0);
            Check.due("at 0, done at 41, due " + due, x.late(0), due < 41 ? 0 : -1);
            x.wait(40);
            Check.due("at 40, done at 41, due " + due, x.late(0), due < 41 ? 0 : -1);
        }
    }

    private static void lateOfTheKth() {
        Check.sentence("The k-th ORDER that is LATE, by numbers; NONE.");
        HatWorks x = works();
        Check.due("of none", x.late(0), -1);
        int[] due = {0, 500, 1, 42, 41, 0};
        for (int d : due) {
            Check.addOrder(x, 150, SMALL, d, 1);
        }
        Check.due("of six, none late", x.late(0), -1);
        x.go(4);
        Check.due("4 is done at 41, its due minute", x.late(0), -1);
        x.go(3);
        Check.due("3 is done at 76", x.late(0), 3);
        Check.due("no other", x.late(1), -1);
        x.wait(2);
        int[] want = {0, 2, 3, 5, -1, -1};
        for (int k = 0; k < 6; k++) {
            Check.due("late(" + k + ")", x.late(k), want[k]);
        }
        Check.due("late(-1)", x.late(-1), -1);
        Check.due("late(least)", x.late(Integer.MIN_VALUE), -1);
        Check.due("late(most)", x.late(Integer.MAX_VALUE), -1);
        x.go(0);
        Check.due("by numbers, not by when they went", x.late(0), 0);
    }

    private static void lateAtTheLastMinute() {
        Check.sentence("LATE is an ORDER that WAITS while NOW is behind its DUE minute, or one that went");
        HatWorks x = near(10000);
        Check.addBlock(x, 100, 100);
        Check.addOrder(x, 100, SMALL, 1000000, 1);
        Check.addOrder(x, 100, SMALL, 999999, 1);
        Check.due("due 999,999 at 1,000,000", x.late(0), 1);
        Check.due("not due 1,000,000", x.late(1), -1);
        Check.due("go at the last minute", x.go(0), 1000000);
        Check.due("done behind it", x.told(0, 10), 1000041);
        Check.due("so it is late", x.late(0), 0);
        Check.due("it can't be done by now", x.told(0, 8), 1);
    }

    private static void counts() {
        Check.sentence("0 BLOCKS, 1 ORDERS, 2 those that WAIT, 3 NOW, 4 radii in the HAND, 5 bytes of the TAPE,"
            + " 6 from when the STEAMER is free");
        HatWorks x = waiting(4);
        x.go(1);
        x.wait(3);
        x.push(99);
        Check.feed(x, "x".repeat(40));
        int[] want = {2, 4, 3, 3, 1, 40, 6};
        for (int what = 0; what <= 6; what++) {
            Check.due("count(" + what + ")", x.count(what), want[what]);
        }
    }

    private static void countsWaiting() {
        Check.sentence("2 those that WAIT");
        HatWorks x = waiting(3);
        Check.due("three", x.count(2), 3);
        x.go(1);
        Check.due("two", x.count(2), 2);
        x.wait(1000);
        Check.due("waiting is not by minutes", x.count(2), 2);
        x.run();
        Check.due("none", x.count(2), 0);
        Check.due("three orders", x.count(1), 3);
    }

    private static void countsSteamer() {
        Check.sentence("6 from when the STEAMER is free");
        HatWorks x = waiting(2);
        Check.due("at first", x.count(6), 0);
        x.wait(10);
        Check.due("still from 0 on", x.count(6), 0);
        x.go(0);
        Check.due("10 and 6", x.count(6), 16);
        x.wait(100);
        Check.due("still from 16 on", x.count(6), 16);
        x.plan();
        Check.due("a plan sends none", x.count(6), 16);
        x.run();
        Check.due("110 and 6", x.count(6), 116);
    }

    private static void countsOthers() {
        Check.sentence("NONE for others.");
        HatWorks x = waiting(1);
        int[] others = {Integer.MIN_VALUE, -2, -1, 7, 8, Integer.MAX_VALUE};
        for (int what : others) {
            Check.due("count(" + what + ")", x.count(what), -1);
        }
    }
}
