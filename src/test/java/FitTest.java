/** Promises 15 and 16: how hats fitted, and what is led back to their blocks. */
public final class FitTest {
    private static final String SMALL = "crown 5,felt 1"; // 6 in the steamer, 35 on the block

    public static void main(String[] args) {
        fits();
        wear();
        Check.end();
    }

    private static HatWorks works() {
        HatWorks x = new HatWorks();
        Check.addBlock(x, 100, 100);
        Check.addBlock(x, 150, 150);
        return x;
    }

    private static void fits() {
        HatWorks x = works();
        Check.outside("no order", () -> x.fit(0, 0));
        Check.outside("no order before no fit", () -> x.fit(0, 3));
        Check.addOrder(x, 100, SMALL, 0, 1);
        Check.outside("order -1", () -> x.fit(-1, 0));
        Check.outside("order 1", () -> x.fit(1, 0));
        Check.due("it waits", x.fit(0, 0), -1);
        Check.illegal("3, waiting", () -> x.fit(0, 3));
        x.go(0);
        x.wait(40);
        Check.due("a minute early", x.fit(0, 0), -1);
        Check.due("nothing told", x.wear(0, 1), 0);
        x.wait(1);
        Check.illegal("3", () -> x.fit(0, 3));
        Check.illegal("-3", () -> x.fit(0, -3));
        Check.due("0 is a fit", x.fit(0, 0), 1);
        Check.due("once", x.fit(0, 2), 0);
        Check.illegal("3, told", () -> x.fit(0, 3));
        Check.due("one fit", x.wear(0, 1), 1);
        Check.due("sum", x.wear(0, 2), 0);
    }

    private static void wear() {
        HatWorks x = works();
        for (int k = 0; k < 5; k++) {
            Check.addOrder(x, k == 3 ? 150 : 100, SMALL, 0, 1);
        }
        Check.due("none went", x.wear(0, 0), 0);
        x.go(0);
        x.go(1);
        x.go(2);
        x.go(3);
        Check.due("went, if still to come", x.wear(0, 0), 3);
        Check.due("on the other", x.wear(1, 0), 1);
        x.wait(1000);
        x.fit(0, -2);
        x.fit(1, -1);
        x.fit(3, 2);
        Check.due("went", x.wear(0, 0), 3);
        Check.due("fits", x.wear(0, 1), 2);
        Check.due("sum", x.wear(0, 2), -3);
        Check.due("the other's fits", x.wear(1, 1), 1);
        Check.due("the other's sum", x.wear(1, 2), 2);
        Check.illegal("what -1", () -> x.wear(0, -1));
        Check.illegal("what 3", () -> x.wear(0, 3));
        Check.outside("block 2", () -> x.wear(2, 0));
        Check.outside("block -1", () -> x.wear(-1, 0));
        Check.outside("block before what", () -> x.wear(2, 3));
    }
}
