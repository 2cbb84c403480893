/** Promises 4, 5 and 8: the tape, how an order comes or is refused, and what it tells. */
public final class OrderTest {
    private static final String SMALL = "crown 5,felt 1";
    private static final String FILLED = "crown 5,felt 1      ";

    public static void main(String[] args) {
        fedByTwenties();
        tapeIsFull();
        tapeBeginsAnew();
        highestFirst();
        numbers();
        bothAreEmptyThen();
        refusedForTheHand();
        refusedForNoBlock();
        refusedForSixty();
        refusedForAFault();
        theFirstOfThese();
        argumentN();
        argumentDue();
        argumentWeight();
        argumentsAhead();
        tells();
        tellsOrder();
        tellsState();
        tellsNoneWhileWaiting();
        toldRefusals();
        Check.end();
    }

    private static HatWorks fed(int times) {
        HatWorks x = Check.works(100);
        Check.pushSome(x, 12, 100);
        for (int k = 0; k < times; k++) {
            x.feed(0x20202020, 0x20202020, 0x20202020, 0x20202020, 0x20202020);
        }
        return x;
    }

    private static HatWorks ready() {
        HatWorks x = Check.works(100);
        Check.pushSome(x, 12, 100);
        Check.feed(x, FILLED);
        return x;
    }

    private static void fedByTwenties() {
        Check.sentence("Twenty bytes come on the TAPE, of each number the highest first: how many there are");
        HatWorks x = new HatWorks();
        for (int n = 20; n <= 100; n += 20) {
            Check.due("feed", x.feed(1, 2, 3, 4, 5), n);
            Check.due("count(5)", x.count(5), n);
        }
    }

    private static void tapeIsFull() {
        Check.sentence("NONE, doing nothing, if there would be more than 100.");
        HatWorks x = fed(4);
        Check.due("80 are there", x.count(5), 80);
        Check.due("up to 100", x.feed(0, 0, 0, 0, 0), 100);
        Check.due("above 100", x.feed(0, 0, 0, 0, 0), -1);
        Check.due("above 100 again", x.feed(0, 0, 0, 0, 0), -1);
        Check.due("100 stay", x.count(5), 100);
        // Nothing of what was refused is on the tape, at its beginning or its end.
        HatWorks y = Check.works(100);
        Check.pushSome(y, 12, 100);
        Check.feed(y, SMALL + " ".repeat(86));
        y.feed(-1, -1, -1, -1, -1);
        Check.due("the tape's bytes stay", y.order(100, 0, 1), 0);
    }

    private static void tapeBeginsAnew() {
        Check.sentence("(both are empty then)");
        HatWorks x = fed(5);
        Check.due("a fault", x.order(100, 0, 1), -9);
        Check.due("fed behind it", x.feed(0x63726f77, 0x6e20352c, 0x66656c74, 0x20312020, 0x20202020), 20);
        Check.pushSome(x, 12, 100);
        Check.illegal("the old bytes are gone", () -> x.order(21, 0, 1));
        Check.due("the new ones are the first", x.order(20, 0, 1), 0);
    }

    private static void highestFirst() {
        Check.sentence("of each number the highest first");
        HatWorks x = Check.works(100);
        Check.pushSome(x, 12, 100);
        x.feed(0x63726f77, 0x6e20352c, 0x66656c74, 0x20312c62, 0x72696d39);
        Check.due("crown 5,felt 1,brim9", x.order(20, 0, 1), 0);
        Check.due("price", x.told(0, 3), 47);
        // A byte of each place of each number that is no sign of a hat stands where it was put.
        for (int k = 0; k < 20; k++) {
            int[] numbers = {0x20202020, 0x20202020, 0x20202020, 0x20202020, 0x20202020};
            int shift = 24 - 8 * (k % 4);
            numbers[k / 4] = numbers[k / 4] & ~(255 << shift) | 255 << shift;
            HatWorks y = Check.works(100);
            Check.pushSome(y, 12, 100);
            y.feed(numbers[0], numbers[1], numbers[2], numbers[3], numbers[4]);
            Check.due("255 at " + k, y.order(20, 0, 1), -9);
            Check.due("its place", y.fault(), k);
        }
    }

    private static void numbers() {
        Check.sentence("ORDERS, numbered from 0 on; An ORDER: its number");
        HatWorks x = Check.works(100);
        for (int k = 0; k < 30; k++) {
            Check.due("order", Check.addOrder(x, 100, SMALL, 0, 1), k);
            Check.due("count(1)", x.count(1), k + 1);
        }
    }

    private static void bothAreEmptyThen() {
        Check.sentence("(both are empty then)");
        HatWorks x = ready();
        x.feed(0, 0, 0, 0, 0);
        Check.due("14 of 40 bytes", x.order(14, 0, 1), 0);
        Check.due("the whole tape is empty", x.count(5), 0);
        Check.due("the hand is empty", x.count(4), 0);
        Check.due("push begins anew", x.push(100), 1);
        Check.due("feed begins anew", x.feed(0, 0, 0, 0, 0), 20);
    }

    private static void refusedForTheHand() {
        Check.sentence("-1 the HAND has not 12");
        for (int many = 0; many <= 12; many++) {
            HatWorks x = Check.works(100);
            Check.pushSome(x, many, 100);
            Check.feed(x, FILLED);
            Check.due("a hand of " + many, x.order(20, 0, 1), many < 12 ? -1 : 0);
            Check.due("the hand", x.count(4), many < 12 ? many : 0);
            Check.due("the tape", x.count(5), many < 12 ? 20 : 0);
            Check.due("orders", x.count(1), many < 12 ? 0 : 1);
        }
    }

    private static void refusedForNoBlock() {
        Check.sentence("-2 there is no BLOCK; (so far TAPE and HAND stay;)");
        HatWorks x = new HatWorks();
        Check.pushSome(x, 12, 100);
        Check.feed(x, FILLED);
        Check.due("no block", x.order(20, 0, 1), -2);
        Check.due("the hand stays", x.count(4), 12);
        Check.due("the tape stays", x.count(5), 20);
        Check.due("no order", x.count(1), 0);
        Check.due("the ring stays, for a block", x.block(), 0);
        Check.pushSome(x, 12, 100);
        Check.due("one block", x.order(20, 0, 1), 0);
        Check.due("its misfit", x.told(0, 2), 0);
    }

    /** An order takes 14 calls, so 60 are never there within 512; the class is to keep to its rows behind them. */
    private static void refusedForSixty() {
        Check.sentence("ORDERS, 60 at most; -3 there are 60; (so far TAPE and HAND stay;)");
        HatWorks x = Check.works(100);
        for (int k = 0; k < 60; k++) {
            Check.due("order " + k, Check.addOrder(x, 100, SMALL, 0, 1), k);
        }
        Check.due("no ring is said ahead", x.order(0, 0, 1), -1);
        Check.due("a 61st", Check.addOrder(x, 100, SMALL, 0, 1), -3);
        Check.due("the hand stays", x.count(4), 12);
        Check.due("the tape stays", x.count(5), 20);
        Check.due("60 orders", x.count(1), 60);
        Check.due("a faulty hat is not read", x.order(0, 0, 1), -3);
        Check.due("so there is no fault", x.fault(), -1);
        Check.illegal("weight 0", () -> x.order(0, 0, 0));
        x.run();
        Check.due("also when some went", x.order(14, 0, 1), -3);
        Check.due("the last one", x.told(59, 3), 20);
        Check.outside("there is no 61st", () -> x.told(60, 3));
        Check.due("all go", x.run() + x.run() + x.run() + x.run() + x.run() + x.run() + x.run() + x.run(), 53);
        Check.due("none waits", x.count(2), 0);
        Check.due("the last that is late", x.late(59), 59);
        Check.due("no other is late", x.late(60), -1);
    }

    private static void refusedForAFault() {
        Check.sentence("its FAULT less 10 (both are empty)");
        String[] hats = {"crown", "crown 4", "crown 5"};
        for (int kind = 1; kind <= 3; kind++) {
            HatWorks x = Check.works(100);
            Check.pushSome(x, 12, 100);
            Check.feed(x, hats[kind - 1]);
            x.feed(0, 0, 0, 0, 0);
            Check.due("fault " + kind, x.order(hats[kind - 1].length(), 0, 1), kind - 10);
            Check.due("the hand is empty", x.count(4), 0);
            Check.due("the tape is empty", x.count(5), 0);
            Check.due("no order", x.count(1), 0);
            Check.due("no number is lost", Check.addOrder(x, 100, SMALL, 0, 1), 0);
        }
    }

    private static void theFirstOfThese() {
        Check.sentence("or, the first of these: -1; -2; -3; its FAULT less 10");
        HatWorks x = new HatWorks();
        Check.feed(x, "crown 4");
        Check.due("no ring, no block, a fault", x.order(7, 0, 1), -1);
        Check.pushSome(x, 11, 100);
        Check.due("11, no block, a fault", x.order(7, 0, 1), -1);
        x.push(100);
        Check.due("a ring, no block, a fault", x.order(7, 0, 1), -2);
        x.block();
        Check.due("a block, no ring, a fault", x.order(7, 0, 1), -1);
        Check.pushSome(x, 12, 100);
        Check.due("a block, a ring, a fault", x.order(7, 0, 1), -8);
        Check.due("a block, no ring, no hat", x.order(0, 0, 1), -1);
    }

    private static void argumentN() {
        Check.sentence("IllegalArgumentException: n is not 0 to the TAPE's bytes");
        for (int times = 0; times <= 5; times++) {
            int k = times;
            Check.range("n of " + 20 * k, 0, 20 * k, IllegalArgumentException.class, () -> fed(k),
                (x, n) -> x.order(n, 0, 1), n -> -9);
        }
        HatWorks y = fed(5);
        y.feed(0, 0, 0, 0, 0);
        Check.illegal("what was not taken doesn't count", () -> y.order(101, 0, 1));
    }

    private static void argumentDue() {
        Check.sentence("DUE not 0 to 1,000,000");
        Check.range("due", 0, 1000000, IllegalArgumentException.class, OrderTest::ready,
            (x, due) -> x.order(20, due, 1) + x.told(0, 6), due -> due);
        HatWorks y = ready();
        y.wait(10);
        Check.due("due may be behind now", y.order(20, 9, 1), 0);
    }

    private static void argumentWeight() {
        Check.sentence("a WEIGHT (1 to 9)");
        Check.range("weight", 1, 9, IllegalArgumentException.class, OrderTest::ready,
            (x, weight) -> x.order(20, 0, weight) + x.told(0, 7), weight -> weight);
    }

    private static void argumentsAhead() {
        Check.sentence("order: IllegalArgumentException ahead of -1, -2, and of a FAULT");
        HatWorks x = new HatWorks();
        Check.illegal("n, no ring", () -> x.order(1, 0, 1));
        Check.illegal("n below 0, no ring", () -> x.order(-1, 0, 1));
        Check.illegal("due, no ring", () -> x.order(0, -1, 1));
        Check.illegal("weight, no ring", () -> x.order(0, 0, 10));
        Check.pushSome(x, 12, 100);
        Check.illegal("n, no block", () -> x.order(1, 0, 1));
        Check.illegal("due, no block", () -> x.order(0, 1000001, 1));
        Check.illegal("weight, no block", () -> x.order(0, 0, 0));
        x.block();
        Check.pushSome(x, 12, 100);
        Check.illegal("n, a fault", () -> x.order(1, 0, 1));
        Check.illegal("due, a fault", () -> x.order(0, -1, 1));
        Check.illegal("weight, a fault", () -> x.order(0, 0, 10));
        Check.due("the hand stays", x.count(4), 12);
        Check.due("no hat was read", x.fault(), -1);
    }

    private static HatWorks told() {
        HatWorks x = Check.works(100);
        Check.pushRing(x, 103, 102);
        Check.feed(x, "crown 7,brim 4,band 3,felt 2");
        x.order(28, 77, 6);
        return x;
    }

    private static void tells() {
        Check.sentence("Of an ORDER: 0 its BLOCK, .. 11 by which ORDER; IllegalArgumentException: another what.");
        int[] want = {0, 0, 53, 110, 16, 57, 77, 6, 0, -1, -1, -1};
        Check.range("told", 0, 11, IllegalArgumentException.class, OrderTest::told,
            (x, what) -> x.told(0, what), what -> want[what]);
        HatWorks y = told();
        for (int what = 0; what < 12; what++) {
            Check.due("told(0, " + what + ")", y.told(0, what), want[what]);
        }
        y.go(0);
        int[] gone = {0, 0, 53, 110, 16, 57, 77, 6, 1, 0, 73, -1};
        for (int what = 0; what < 12; what++) {
            Check.due("gone, told(0, " + what + ")", y.told(0, what), gone[what]);
        }
    }

    private static void tellsOrder() {
        Check.sentence("IndexOutOfBoundsException: no such ORDER (so below)");
        Check.outside("of none", () -> Check.works(100).told(0, 0));
        Check.range("told of 1 order", 0, 0, IndexOutOfBoundsException.class, OrderTest::told,
            (x, order) -> x.told(order, 7), order -> 6);
        Check.range("told of 9 orders", 0, 8, IndexOutOfBoundsException.class, OrderTest::nine,
            (x, order) -> x.told(order, 7), order -> order + 1);
        HatWorks y = told();
        Check.addOrder(y, 100, "crown 4", 0, 1);
        Check.outside("a refused one has no number", () -> y.told(1, 0));
    }

    private static HatWorks nine() {
        HatWorks x = Check.works(100);
        for (int k = 0; k < 9; k++) {
            Check.addOrder(x, 100, SMALL, 0, k + 1);
        }
        return x;
    }

    private static void tellsState() {
        Check.sentence("8 0 it WAITS, 1 it went, 2 it is DONE by now");
        HatWorks x = Check.works(100);
        Check.addOrder(x, 100, SMALL, 0, 1);
        Check.addOrder(x, 100, SMALL, 0, 1);
        Check.due("it waits", x.told(0, 8), 0);
        x.wait(3);
        Check.due("it still waits", x.told(0, 8), 0);
        x.go(0);
        Check.due("it went", x.told(0, 8), 1);
        x.go(1);
        Check.due("it went, though it starts at 38", x.told(1, 8), 1);
        x.wait(40);
        Check.due("at 43 it is not done", x.told(0, 8), 1);
        x.wait(1);
        Check.due("at 44 it is", x.told(0, 8), 2);
        Check.due("the other is not", x.told(1, 8), 1);
        x.wait(1);
        Check.due("at 45 too", x.told(0, 8), 2);
        x.wait(33);
        Check.due("at 78 the other is not", x.told(1, 8), 1);
        x.wait(1);
        Check.due("at 79 the other is", x.told(1, 8), 2);
    }

    private static void tellsNoneWhileWaiting() {
        Check.sentence("(9 to 11: NONE when it WAITS; 11: NONE also when it wasn't)");
        HatWorks x = Check.works(100);
        Check.addOrder(x, 100, SMALL, 0, 1);
        Check.addOrder(x, 100, SMALL, 0, 1);
        x.wait(2);
        x.plan();
        for (int what = 9; what <= 11; what++) {
            Check.due("waiting, " + what, x.told(0, what), -1);
        }
        x.go(0);
        Check.due("when it starts", x.told(0, 9), 2);
        Check.due("when it is done", x.told(0, 10), 43);
        Check.due("it wasn't held", x.told(0, 11), -1);
        for (int what = 9; what <= 11; what++) {
            Check.due("the other still waits, " + what, x.told(1, what), -1);
        }
        x.go(1);
        Check.due("the other was held by order 0", x.told(1, 11), 0);
    }

    private static void toldRefusals() {
        Check.sentence("told: the ORDER ahead of the what");
        HatWorks x = told();
        Check.outside("order 1, what 12", () -> x.told(1, 12));
        Check.outside("order -1, what -1", () -> x.told(-1, -1));
        Check.illegal("order 0, what 12", () -> x.told(0, 12));
    }
}
