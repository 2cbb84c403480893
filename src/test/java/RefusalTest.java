/** A call that is refused, or that only asks, changes nothing that the document doesn't say it changes. */
public final class RefusalTest {
    private static final String ILLEGAL = "IllegalArgumentException";
    private static final String OUTSIDE = "IndexOutOfBoundsException";
    private static final String FILLED = "crown 5,felt 1      ";

    public static void main(String[] args) {
        push();
        block();
        feed();
        orderArguments();
        orderAnswers();
        go();
        waiting();
        fit();
        askedOnly();
        Check.end();
    }

    /** Two blocks; one done, one on its block, one waiting; five radii in the hand, a hat on the tape. */
    private static void midway(HatWorks x) {
        Check.addBlock(x, 100, 100);
        Check.addBlock(x, 155, 150);
        for (int k = 0; k < 3; k++) {
            Check.addOrder(x, 100, "crown 5,felt 1,brim " + k, 20 * k, 1 + k);
        }
        x.go(0);
        x.wait(41);
        x.go(1);
        Check.push(x, 90, 95, 101, 99, 200);
        Check.feed(x, FILLED);
    }

    private static void midwayFull(HatWorks x) {
        midway(x);
        Check.push(x, 110, 111, 112, 113, 114, 115, 50);
    }

    private static void push() {
        Check.sentence("push: IllegalArgumentException: it is not 50 to 200; NONE, doing nothing: it has 12.");
        Twins.unchanged("push(49) of a new object", ILLEGAL, x -> { }, x -> x.push(49));
        Twins.unchanged("push(49)", ILLEGAL, RefusalTest::midway, x -> x.push(49));
        Twins.unchanged("push(201)", ILLEGAL, RefusalTest::midway, x -> x.push(201));
        Twins.unchanged("push(49), full", ILLEGAL, RefusalTest::midwayFull, x -> x.push(49));
        Twins.unchanged("push(100), full", "-1", RefusalTest::midwayFull, x -> x.push(100));
    }

    private static void tenBlocks(HatWorks x) {
        for (int k = 0; k < 10; k++) {
            Check.addBlock(x, 100 + k, 100);
        }
    }

    private static void block() {
        Check.sentence("block: -1, and the HAND stays: it has not 12. IllegalStateException: there are 10.");
        Twins.unchanged("block() of a new object", "-1", x -> { }, x -> x.block());
        Twins.unchanged("block() of 5", "-1", RefusalTest::midway, x -> x.block());
        Twins.unchanged("block() at 10, of 0", "IllegalStateException", RefusalTest::tenBlocks, x -> x.block());
        Twins.unchanged("block() at 10, of 12", "IllegalStateException", x -> {
            tenBlocks(x);
            Check.push(x, 51, 62, 73, 84, 95, 106, 117, 128, 139, 150, 161, 172);
            Check.feed(x, FILLED);
        }, x -> x.block());
    }

    private static void feed() {
        Check.sentence("feed: NONE, doing nothing, if there would be more than 100.");
        Twins.unchanged("feed at 100", "-1", x -> {
            midway(x);
            Check.feed(x, ",brim 7             ");
            Check.feed(x, ",band 3" + " ".repeat(53));
        }, x -> x.feed(0x78787878, 0x78787878, 0x78787878, 0x78787878, 0x78787878));
        Twins.unchanged("feed at 100, faulty", "-1", x -> {
            midway(x);
            Check.feed(x, " ".repeat(79) + "x");
        }, x -> x.feed(0, 0, 0, 0, 0));
    }

    private static void orderArguments() {
        Check.sentence("order: IllegalArgumentException: n, DUE or WEIGHT");
        int[][] wrong = {{-1, 0, 1}, {21, 0, 1}, {20, -1, 1}, {20, 1000001, 1}, {20, 0, 0}, {20, 0, 10},
            {Integer.MIN_VALUE, 0, 1}, {Integer.MAX_VALUE, 0, 1}, {20, 0, -1}};
        for (int[] w : wrong) {
            String what = "order(" + w[0] + ", " + w[1] + ", " + w[2] + ")";
            Twins.unchanged(what + ", short", ILLEGAL, RefusalTest::midway, x -> x.order(w[0], w[1], w[2]));
            Twins.unchanged(what + ", full", ILLEGAL, RefusalTest::midwayFull, x -> x.order(w[0], w[1], w[2]));
        }
    }

    private static void orderAnswers() {
        Check.sentence("order: -1, -2, -3: (so far TAPE and HAND stay;)");
        Twins.unchanged("order of a new object", "-1", x -> { }, x -> x.order(0, 0, 1));
        Twins.unchanged("order of a short hand", "-1", RefusalTest::midway, x -> x.order(20, 0, 1));
        Twins.unchanged("a faulty order of a short hand", "-1", RefusalTest::midway, x -> x.order(0, 0, 1));
        Twins.unchanged("an order without a block", "-2", x -> {
            Check.push(x, 51, 62, 73, 84, 95, 106, 117, 128, 139, 150, 161, 172);
            Check.feed(x, FILLED);
        }, x -> x.order(20, 0, 1));
        Twins.unchanged("a faulty order without a block", "-2", x -> {
            Check.push(x, 51, 62, 73, 84, 95, 106, 117, 128, 139, 150, 161, 172);
            Check.feed(x, FILLED);
        }, x -> x.order(3, 0, 1));
        Twins.unchanged("a fault of an earlier order stays", "-1", x -> {
            midwayFull(x);
            x.order(3, 0, 1);
        }, x -> x.order(0, 0, 1));
        Twins.unchanged("an order behind 60", "-3", x -> {
            Check.addBlock(x, 100, 100);
            for (int k = 0; k < 60; k++) {
                Check.addOrder(x, 100, "crown 5,felt 1", 0, 1);
            }
            Check.push(x, 51, 62, 73, 84, 95, 106, 117, 128, 139, 150, 161, 172);
            Check.feed(x, FILLED);
        }, x -> x.order(20, 0, 1));
    }

    private static void go() {
        Check.sentence("go: NONE: it doesn't WAIT; IndexOutOfBoundsException: no such ORDER");
        Twins.unchanged("go(0), done", "-1", RefusalTest::midway, x -> x.go(0));
        Twins.unchanged("go(1), gone", "-1", RefusalTest::midway, x -> x.go(1));
        Twins.unchanged("go(3)", OUTSIDE, RefusalTest::midway, x -> x.go(3));
        Twins.unchanged("go(-1)", OUTSIDE, RefusalTest::midway, x -> x.go(-1));
    }

    private static void waiting() {
        Check.sentence("wait: IllegalArgumentException: they are not 0 to 10,000, or it would be above 1,000,000");
        Twins.unchanged("wait(-1)", ILLEGAL, RefusalTest::midway, x -> x.wait(-1));
        Twins.unchanged("wait(10001)", ILLEGAL, RefusalTest::midway, x -> x.wait(10001));
        Twins.unchanged("wait(0)", "41", RefusalTest::midway, x -> x.wait(0));
        Twins.unchanged("wait beyond the last minute", ILLEGAL, x -> {
            midway(x);
            for (int k = 0; k < 99; k++) {
                x.wait(10000);
            }
        }, x -> x.wait(9960));
    }

    private static void fit() {
        Check.sentence("fit: 0: it was told one; -1: it isn't DONE by now. IllegalArgumentException: not -2 to 2.");
        Twins.unchanged("fit(0, 3)", ILLEGAL, RefusalTest::midway, x -> x.fit(0, 3));
        Twins.unchanged("fit(0, -3)", ILLEGAL, RefusalTest::midway, x -> x.fit(0, -3));
        Twins.unchanged("fit(1, 1), on its block", "-1", RefusalTest::midway, x -> x.fit(1, 1));
        Twins.unchanged("fit(2, 1), waiting", "-1", RefusalTest::midway, x -> x.fit(2, 1));
        Twins.unchanged("fit(3, 1)", OUTSIDE, RefusalTest::midway, x -> x.fit(3, 1));
        Twins.unchanged("fit(-1, 1)", OUTSIDE, RefusalTest::midway, x -> x.fit(-1, 1));
        Twins.unchanged("a second fit", "0", x -> {
            midway(x);
            x.fit(0, -1);
        }, x -> x.fit(0, 2));
    }

    private static void askedOnly() {
        Check.sentence("what is only asked changes nothing");
        Twins.unchanged("fault()", "-1", RefusalTest::midway, x -> x.fault());
        Twins.unchanged("misfit(0, 0), short", "-1", RefusalTest::midway, x -> x.misfit(0, 0));
        Twins.unchanged("misfit(0, 11)", "13582", RefusalTest::midwayFull, x -> x.misfit(0, 11));
        Twins.unchanged("misfit(0, 12)", ILLEGAL, RefusalTest::midwayFull, x -> x.misfit(0, 12));
        Twins.unchanged("misfit(2, 0)", OUTSIDE, RefusalTest::midwayFull, x -> x.misfit(2, 0));
        Twins.unchanged("told(1, 8)", "1", RefusalTest::midway, x -> x.told(1, 8));
        Twins.unchanged("told(1, 12)", ILLEGAL, RefusalTest::midway, x -> x.told(1, 12));
        Twins.unchanged("told(3, 0)", OUTSIDE, RefusalTest::midway, x -> x.told(3, 0));
        Twins.unchanged("plan()", "354", RefusalTest::midway, x -> x.plan());
        Twins.unchanged("planned(0)", "2", RefusalTest::midway, x -> x.planned(0));
        Twins.unchanged("planned(1)", "-1", RefusalTest::midway, x -> x.planned(1));
        Twins.unchanged("late(0)", "0", RefusalTest::midway, x -> x.late(0));
        Twins.unchanged("late(-1)", "-1", RefusalTest::midway, x -> x.late(-1));
        Twins.unchanged("wear(0, 0)", "2", RefusalTest::midway, x -> x.wear(0, 0));
        Twins.unchanged("wear(0, 3)", ILLEGAL, RefusalTest::midway, x -> x.wear(0, 3));
        Twins.unchanged("wear(2, 0)", OUTSIDE, RefusalTest::midway, x -> x.wear(2, 0));
        Twins.unchanged("count(6)", "48", RefusalTest::midway, x -> x.count(6));
        Twins.unchanged("count(7)", "-1", RefusalTest::midway, x -> x.count(7));
        Twins.unchanged("a run of none", "0", x -> Check.addBlock(x, 100, 100), x -> x.run());
    }
}
