/** Terms ==== 5 and promises 15 and 16: how hats fitted, and what is led back to their blocks. */
public final class FitTest {
    private static final String SMALL = "crown 5,felt 1"; // 6 in the steamer, 35 on the block

    public static void main(String[] args) {
        values();
        notDone();
        doneByNow();
        once();
        onceEachOrder();
        fitOrder();
        fitRefusals();
        refusedFitIsNotTold();
        wearWhat();
        wearBlock();
        wearRefusals();
        howManyWent();
        howManyTold();
        theSum();
        Check.end();
    }

    private static HatWorks waiting(int many) {
        HatWorks x = Check.works(100, 150);
        for (int k = 0; k < many; k++) {
            Check.addOrder(x, 100, SMALL, 0, 1);
        }
        return x;
    }

    /** Orders 0 to many - 1, all on block 0, all done by now. */
    private static HatWorks done(int many) {
        HatWorks x = waiting(many);
        for (int k = 0; k < many; k++) {
            x.go(k);
        }
        x.wait(1000);
        return x;
    }

    private static void wear(String what, HatWorks x, int block, int went, int told, int sum) {
        Check.due(what + ": went on " + block, x.wear(block, 0), went);
        Check.due(what + ": told of " + block, x.wear(block, 1), told);
        Check.due(what + ": sum of " + block, x.wear(block, 2), sum);
    }

    private static void values() {
        Check.sentence("-2 (far too tight) to 2 (far too wide); IllegalArgumentException: it is not -2 to 2.");
        Check.range("fit", -2, 2, IllegalArgumentException.class, () -> done(1), (x, fit) -> x.fit(0, fit), fit -> 1);
        for (int fit = -2; fit <= 2; fit++) {
            HatWorks x = done(1);
            Check.due("fit " + fit, x.fit(0, fit), 1);
            wear("fit " + fit, x, 0, 1, 1, fit);
        }
    }

    private static void notDone() {
        Check.sentence("-1: it isn't DONE by now.");
        HatWorks x = waiting(2);
        Check.due("it waits", x.fit(0, 0), -1);
        x.wait(1000);
        Check.due("it waits long", x.fit(0, 0), -1);
        x.go(0);
        x.go(1);
        Check.due("it went", x.fit(0, 0), -1);
        x.wait(41);
        Check.due("it is done", x.fit(0, 0), 1);
        Check.due("the other isn't", x.fit(1, 0), -1);
        wear("one is done", x, 0, 2, 1, 0);
    }

    private static void doneByNow() {
        Check.sentence("FIT of an ORDER that is DONE (NOW is that minute or later)");
        for (int now = 40; now <= 42; now++) {
            HatWorks x = waiting(1);
            x.go(0);
            x.wait(now);
            Check.due("at " + now, x.fit(0, 1), now < 41 ? -1 : 1);
            wear("at " + now, x, 0, 1, now < 41 ? 0 : 1, now < 41 ? 0 : 1);
        }
    }

    private static void once() {
        Check.sentence("FIT: 1; 0: it was told one");
        for (int fit = -2; fit <= 2; fit++) {
            HatWorks x = done(1);
            Check.due("the first, " + fit, x.fit(0, fit), 1);
            Check.due("the same again", x.fit(0, fit), 0);
            Check.due("another", x.fit(0, -fit), 0);
            x.wait(1);
            Check.due("later", x.fit(0, 2), 0);
            wear("the first stays", x, 0, 1, 1, fit);
        }
        HatWorks y = waiting(1);
        y.go(0);
        Check.due("too early", y.fit(0, 2), -1);
        y.wait(41);
        Check.due("too early was not the one", y.fit(0, 1), 1);
        Check.due("now it was", y.fit(0, 1), 0);
    }

    private static void onceEachOrder() {
        Check.sentence("FIT of an ORDER that is DONE, once");
        HatWorks x = done(3);
        Check.due("order 1", x.fit(1, 2), 1);
        Check.due("order 0", x.fit(0, 2), 1);
        Check.due("order 1 again", x.fit(1, 2), 0);
        Check.due("order 2", x.fit(2, 2), 1);
        wear("three", x, 0, 3, 3, 6);
    }

    private static void fitOrder() {
        Check.sentence("fit: IndexOutOfBoundsException: no such ORDER");
        Check.outside("of none", () -> waiting(0).fit(0, 0));
        Check.range("fit of 1 order", 0, 0, IndexOutOfBoundsException.class, () -> done(1),
            (x, order) -> x.fit(order, 1), order -> 1);
        Check.range("fit of 4 orders", 0, 3, IndexOutOfBoundsException.class, () -> done(4),
            (x, order) -> x.fit(order, 1), order -> 1);
    }

    private static void fitRefusals() {
        Check.sentence("fit: exceptions ahead of 0 and -1, the ORDER ahead of the FIT");
        HatWorks x = waiting(1);
        Check.outside("order 1, fit 3", () -> x.fit(1, 3));
        Check.outside("order -1, fit -3", () -> x.fit(-1, -3));
        Check.illegal("3, waiting", () -> x.fit(0, 3));
        Check.illegal("-3, waiting", () -> x.fit(0, -3));
        x.go(0);
        Check.illegal("3, not done", () -> x.fit(0, 3));
        x.wait(41);
        Check.illegal("3, done", () -> x.fit(0, 3));
        x.fit(0, 1);
        Check.illegal("3, told", () -> x.fit(0, 3));
        Check.illegal("-3, told", () -> x.fit(0, -3));
    }

    private static void refusedFitIsNotTold() {
        Check.sentence("IllegalArgumentException: it is not -2 to 2.");
        HatWorks x = done(1);
        Check.illegal("3", () -> x.fit(0, 3));
        Check.illegal("-3", () -> x.fit(0, -3));
        wear("none was told", x, 0, 1, 0, 0);
        Check.due("a good one", x.fit(0, 2), 1);
    }

    private static HatWorks worn() {
        HatWorks x = done(5);
        x.fit(0, -2);
        x.fit(1, -1);
        x.fit(4, -1);
        return x;
    }

    private static void wearWhat() {
        Check.sentence("0 how many went on it, 1 how many told a FIT, 2 the sum. IllegalArgumentException: another what.");
        int[] want = {5, 3, -4};
        Check.range("wear", 0, 2, IllegalArgumentException.class, FitTest::worn,
            (x, what) -> x.wear(0, what), what -> want[what]);
        wear("the other block", worn(), 1, 0, 0, 0);
    }

    private static void wearBlock() {
        Check.sentence("wear: IndexOutOfBoundsException: no such BLOCK");
        Check.outside("of none", () -> new HatWorks().wear(0, 0));
        Check.range("wear of 1 block", 0, 0, IndexOutOfBoundsException.class, () -> Check.works(100),
            (x, block) -> x.wear(block, 0), block -> 0);
        Check.range("wear of 10 blocks", 0, 9, IndexOutOfBoundsException.class, FitTest::ten,
            (x, block) -> x.wear(block, 2), block -> block == 0 ? -2 : block == 9 ? 2 : 0);
    }

    private static HatWorks ten() {
        HatWorks x = Check.works(60, 70, 80, 90, 100, 110, 120, 130, 140, 150);
        Check.addOrder(x, 60, SMALL, 0, 1);
        Check.addOrder(x, 150, SMALL, 0, 1);
        x.run();
        x.wait(100);
        x.fit(0, -2);
        x.fit(1, 2);
        return x;
    }

    private static void wearRefusals() {
        Check.sentence("wear: the BLOCK ahead of the what");
        HatWorks x = Check.works(100);
        Check.outside("block 1, what 3", () -> x.wear(1, 3));
        Check.outside("block -1, what -1", () -> x.wear(-1, -1));
        Check.illegal("block 0, what 3", () -> x.wear(0, 3));
    }

    private static void howManyWent() {
        Check.sentence("WEAR of a BLOCK: how many went on it");
        HatWorks x = waiting(3);
        wear("three wait", x, 0, 0, 0, 0);
        x.go(1);
        wear("one went, still to come", x, 0, 1, 0, 0);
        x.go(1);
        wear("it went once", x, 0, 1, 0, 0);
        x.plan();
        wear("a plan sends none", x, 0, 1, 0, 0);
        x.run();
        wear("a run sends the others", x, 0, 3, 0, 0);
        wear("none went on the other", x, 1, 0, 0, 0);
        x.wait(1000);
        wear("when done", x, 0, 3, 0, 0);
    }

    private static void howManyTold() {
        Check.sentence("how many of these told a FIT");
        HatWorks x = done(3);
        x.fit(0, 0);
        wear("0 is told too", x, 0, 3, 1, 0);
        x.fit(2, 0);
        wear("two", x, 0, 3, 2, 0);
        x.fit(2, 0);
        wear("still two", x, 0, 3, 2, 0);
    }

    private static void theSum() {
        Check.sentence("the sum of these");
        HatWorks x = Check.works(100, 150);
        for (int k = 0; k < 8; k++) {
            Check.addOrder(x, k % 2 == 0 ? 100 : 150, SMALL, 0, 1);
        }
        x.run();
        x.run();
        x.wait(1000);
        int[] fits = {-2, 2, -2, 2, -2, 1, 1, 2};
        for (int k = 0; k < 8; k++) {
            x.fit(k, fits[k]);
        }
        wear("to the tight", x, 0, 4, 4, -5);
        wear("to the wide", x, 1, 4, 4, 7);
    }
}
