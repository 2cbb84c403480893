/** Promises 4, 5, 6 and 8: the tape, orders, their faults, what an order tells. */
public final class HatTest {
    public static void main(String[] args) {
        tape();
        tapeBytes();
        refusals();
        arguments();
        goodHats();
        misplaced();
        badNumbers();
        incomplete();
        faultStays();
        cutHats();
        sixty();
        told();
        Check.end();
    }

    private static void tape() {
        HatWorks x = new HatWorks();
        for (int n = 20; n <= 100; n += 20) {
            Check.due("feed", x.feed(1, 2, 3, 4, 5), n);
        }
        Check.due("feed a sixth", x.feed(1, 2, 3, 4, 5), -1);
        Check.due("bytes", x.count(5), 100);
    }

    private static void tapeBytes() {
        HatWorks x = works();
        String hat = "crown 30 ,brim 20 , band 9,felt   5                     ";
        Check.due("three feeds", Check.addOrder(x, 100, hat + "                    ", 0, 1), 0);
        Check.due("the tape is empty", x.count(5), 0);
        Check.pushRing(x, 100, 100);
        Check.due("signs above 127", fed(x, new String(new char[] {233})), -9);
        Check.due("at 0", x.fault(), 0);
    }

    private static void refusals() {
        HatWorks x = new HatWorks();
        Check.feed(x, "crown 5,felt 1");
        Check.due("no ring", x.order(14, 0, 1), -1);
        for (int i = 0; i < 11; i++) {
            x.push(100);
        }
        Check.due("a ring of 11", x.order(14, 0, 1), -1);
        x.push(100);
        Check.due("no block", x.order(14, 0, 1), -2);
        Check.due("hand stays", x.count(4), 12);
        Check.due("tape stays", x.count(5), 20);
        Check.due("no hat was read", x.fault(), -1);
        x.block();
        Check.due("-1 again", x.order(14, 0, 1), -1);
        Check.pushRing(x, 100, 100);
        Check.due("an order", x.order(14, 0, 1), 0);
        Check.due("hand is empty", x.count(4), 0);
        Check.due("the whole tape is empty", x.count(5), 0);
        Check.pushRing(x, 100, 100);
        Check.feed(x, "felt 0");
        Check.due("a fault", x.order(6, 0, 1), -8);
        Check.due("hand is empty behind a fault", x.count(4), 0);
        Check.due("tape is empty behind a fault", x.count(5), 0);
        Check.due("one order", x.count(1), 1);
    }

    private static void arguments() {
        HatWorks x = works();
        Check.illegal("n -1", () -> x.order(-1, 0, 1));
        Check.illegal("n 1 of 0", () -> x.order(1, 0, 1));
        Check.feed(x, "crown 5,felt 1");
        Check.illegal("n 21 of 20", () -> x.order(21, 0, 1));
        Check.illegal("due -1", () -> x.order(14, -1, 1));
        Check.illegal("due 1000001", () -> x.order(14, 1000001, 1));
        Check.illegal("weight 0", () -> x.order(14, 0, 0));
        Check.illegal("weight 10", () -> x.order(14, 0, 10));
        Check.due("tape stays", x.count(5), 20);
        Check.due("-1", x.order(20, 1000000, 9), -1);
        Check.pushRing(x, 100, 100);
        Check.illegal("weight 10, full hand", () -> x.order(14, 0, 10));
        Check.due("hand stays", x.count(4), 12);
        Check.due("the edges", x.order(14, 1000000, 9), 0);
        Check.due("due", x.told(0, 6), 1000000);
        Check.due("weight", x.told(0, 7), 9);
    }

    private static void goodHats() {
        HatWorks x = works();
        String[] hats = {
            "crown 5,felt 1", "felt1,crown5", "  felt  5 , crown  30 ", "crown 30,brim 20,band 9,felt 5",
            "crown 0005,brim 0,band 0,felt 00000000000000000001", "band 3,felt 2,brim 1,crown 17",
        };
        int[] price = {20, 20, 600, 990, 20, 172};
        int[] steam = {6, 6, 30, 50, 6, 13};
        int[] on = {35, 35, 140, 140, 35, 67};
        for (int k = 0; k < hats.length; k++) {
            Check.due(hats[k], Check.addOrder(x, 100, hats[k], 0, 1), k);
            Check.due("fault of " + hats[k], x.fault(), -1);
            Check.due("price of " + hats[k], x.told(k, 3), price[k]);
            Check.due("steam of " + hats[k], x.told(k, 4), steam[k]);
            Check.due("on of " + hats[k], x.told(k, 5), on[k]);
        }
    }

    private static void misplaced() {
        faulty("", -9, 0);
        faulty("   ", -9, 3);
        faulty(",", -9, 0);
        faulty("5", -9, 0);
        faulty("crown", -9, 5);
        faulty("crown  ", -9, 7);
        faulty("crown,felt 1", -9, 5);
        faulty("crown ,felt 1", -9, 6);
        faulty("crown,felt 9", -9, 5);
        faulty("crown 5 felt 9", -9, 8);
        faulty("crown 5,", -9, 8);
        faulty("crown 5, ", -9, 9);
        faulty("crown 5,,felt 1", -9, 8);
        faulty("crown 5 felt 1", -9, 8);
        faulty("crown 5 1,felt 1", -9, 8);
        faulty("crown 5;felt 1", -9, 7);
        faulty("crown 5,felt 1,", -9, 15);
        faulty("crown 5,felt 1.", -9, 14);
        faulty("crown 5,felt 1 x", -9, 15);
        faulty("crowns 5,felt 1", -9, 0);
        faulty("  crow 5,felt 1", -9, 2);
        faulty("Crown 5,felt 1", -9, 0);
        faulty("xrown 5,felt 1", -9, 0);
        faulty("crowz 5,felt 1", -9, 0);
        faulty("feltz 1,crown 5", -9, 0);
        faulty("felta 1,crown 5", -9, 0);
        faulty("crown 5,fel", -9, 8);
        faulty("crown 5, crown 6,felt 1", -9, 9);
        faulty("crown 5, crown", -9, 9);
        faulty("felt 1,felt 9", -9, 7);
        faulty("brim 0,brim 0", -9, 7);
        faulty("crown 5,brim 1,band 2,felt 1,band 3", -9, 29);
        faulty("crown -5,felt 1", -9, 6);
        faulty("crown\t5,felt 1", -9, 5);
        faulty("crown 5,felt 1\0", -9, 14);
        faulty("crown 5,\u00e6felt 1", -9, 8);
        faulty("crown {,felt 1", -9, 6);
        faulty("crown `,felt 1", -9, 6);
        faulty("crown 5/", -9, 7);
        faulty("crown 5:", -9, 7);
    }

    private static void badNumbers() {
        faulty("crown 4,felt 1", -8, 6);
        faulty("crown 31,felt 1", -8, 6);
        faulty("crown   31,felt 1", -8, 8);
        faulty("felt 0,crown 5", -8, 5);
        faulty("felt 6,crown 5", -8, 5);
        faulty("crown 5,felt 1,brim 21", -8, 20);
        faulty("crown 5,felt 1,band 10", -8, 20);
        faulty("crown5,felt1,band10", -8, 17);
        faulty("crown 4", -8, 6);
        faulty("crown 4 x", -8, 6);
        faulty("crown 4,crown 5", -8, 6);
        faulty("crown 4294967301,felt 1", -8, 6);
        faulty("crown 18446744073709551621,felt 1", -8, 6);
        faulty("felt 99999999999999999999999999999999999999999999999999999999999999999999", -8, 5);
    }

    private static void incomplete() {
        faulty("crown 5", -7, 7);
        faulty("felt 1", -7, 6);
        faulty("brim 1,band 2", -7, 13);
        faulty("crown 5,brim 3  ", -7, 16);
        faulty("band 1,felt 2,brim 3", -7, 20);
    }

    private static void faultStays() {
        HatWorks x = works();
        Check.pushRing(x, 100, 100);
        Check.due("fault", fed(x, "crown 4"), -8);
        Check.due("its place", x.fault(), 6);
        Check.due("no ring", x.order(0, 0, 1), -1);
        Check.due("no hat was read, so it stays", x.fault(), 6);
        Check.illegal("weight", () -> x.order(0, 0, 0));
        Check.due("it stays behind a throw", x.fault(), 6);
        Check.due("a good hat behind a bad one", Check.addOrder(x, 100, "crown 5,felt 1", 0, 1), 0);
        Check.due("a good hat", x.fault(), -1);
    }

    /** What stands on the tape behind the n bytes is no part of the hat. */
    private static void cutHats() {
        cut("crown 5,felt 12", 14, 0, -1);
        cut("crown 5,felt 1x", 14, 0, -1);
        cut("crown 5,felt 1  x", 16, 0, -1);
        cut("crown 5,felt 1", 13, -9, 13);
        cut("crown 5,felt 1", 12, -9, 12);
        cut("crown 5,felt 1", 11, -9, 8);
        cut("crown 5,felt 1", 8, -9, 8);
        cut("crown 5,felt 1", 7, -7, 7);
        cut("crown  5,felt 1", 6, -9, 6);
        cut("crown 5,felt 1", 4, -9, 0);
        cut("crown 5,felt 1", 0, -9, 0);
    }

    private static void cut(String hat, int n, int answer, int place) {
        HatWorks x = works();
        Check.pushRing(x, 100, 100);
        Check.feed(x, hat);
        Check.due(n + " of '" + hat + "'", x.order(n, 0, 1), answer);
        Check.due("the fault of " + n + " of '" + hat + "'", x.fault(), place);
    }

    /** Behind the 512th call nothing is promised; here the class is still to keep to its rows. */
    private static void sixty() {
        HatWorks x = works();
        for (int k = 0; k < 60; k++) {
            Check.due("order " + k, Check.addOrder(x, 100, "crown 5,felt 1", 0, 1), k);
        }
        Check.due("a 61st", Check.addOrder(x, 100, "crown 5,felt 1", 0, 1), -3);
        Check.due("hand stays at 60", x.count(4), 12);
        Check.due("tape stays at 60", x.count(5), 20);
    }

    private static void told() {
        HatWorks x = works();
        Check.outside("order 0 of none", () -> x.told(0, 0));
        Check.outside("order before what", () -> x.told(0, 12));
        Check.pushRing(x, 103, 102);
        Check.feed(x, "crown 7,brim 4,band 3,felt 2");
        Check.due("n ends the hat", x.order(28, 77, 6), 0);
        int[] want = {0, 0, 53, 110, 16, 57, 77, 6, 0, -1, -1, -1};
        for (int what = 0; what < 12; what++) {
            Check.due("told(0, " + what + ")", x.told(0, what), want[what]);
        }
        Check.illegal("what -1", () -> x.told(0, -1));
        Check.illegal("what 12", () -> x.told(0, 12));
        Check.outside("order 1", () -> x.told(1, 0));
        Check.outside("order -1", () -> x.told(-1, 0));
    }

    private static HatWorks works() {
        HatWorks x = new HatWorks();
        Check.addBlock(x, 100, 100);
        return x;
    }

    private static int fed(HatWorks x, String hat) {
        Check.feed(x, hat);
        return x.order(hat.length(), 0, 1);
    }

    private static void faulty(String hat, int answer, int place) {
        HatWorks x = works();
        Check.due("'" + hat + "'", Check.addOrder(x, 100, hat, 0, 1), answer);
        Check.due("the fault of '" + hat + "'", x.fault(), place);
    }
}
