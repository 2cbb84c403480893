import java.util.ArrayList;
import java.util.List;

/** Two objects led through the same calls, of which one is asked one call more that may change nothing. */
final class Twins {
    interface Steps {
        void take(HatWorks x);
    }

    interface Asked {
        long answer(HatWorks x);
    }

    private final HatWorks x;
    private final List<String> told = new ArrayList<>();

    private Twins(HatWorks x) {
        this.x = x;
    }

    /** The call answers (or throws) what is due, and whatever is asked behind it is as without it. */
    static void unchanged(String what, String due, Steps before, Asked call) {
        HatWorks plain = new HatWorks();
        before.take(plain);
        HatWorks asked = new HatWorks();
        before.take(asked);
        Check.due(what, Check.outcome(() -> call.answer(asked)), due);
        List<String> want = new Twins(plain).all();
        List<String> got = new Twins(asked).all();
        for (int k = 0; k < want.size() && k < got.size(); k++) {
            Check.due("behind " + what + ": ", got.get(k), want.get(k));
        }
        Check.due("how much is told behind " + what, got.size(), want.size());
    }

    /** What can be seen at once, and then what hand and tape still hide, by using them up. */
    private List<String> all() {
        look();
        ask("push a 12th", () -> fillHand());
        misfits();
        int bytes = x.count(5);
        ask("order of the tape", () -> x.order(bytes, 50, 3));
        ask("its fault", () -> x.fault());
        ask("block", () -> x.block());
        ask("push 12 more", () -> fillHand());
        misfits();
        ask("run", () -> x.run());
        ask("wait", () -> x.wait(0));
        look();
        return told;
    }

    private void ask(String what, Check.Call call) {
        told.add(what + " " + Check.outcome(call));
    }

    private void look() {
        for (int k = -1; k <= 7; k++) {
            int what = k;
            ask("count " + k, () -> x.count(what));
            ask("planned " + k, () -> x.planned(what));
            ask("late " + k, () -> x.late(what));
        }
        ask("fault", () -> x.fault());
        ask("plan", () -> x.plan());
        for (int order = 0; order < x.count(1); order++) {
            for (int what = 0; what < 12; what++) {
                int o = order;
                int w = what;
                ask("told " + o + " " + w, () -> x.told(o, w));
            }
        }
        for (int block = 0; block < x.count(0); block++) {
            for (int what = 0; what < 3; what++) {
                int b = block;
                int w = what;
                ask("wear " + b + " " + w, () -> x.wear(b, w));
            }
        }
    }

    private int fillHand() {
        int answer = x.count(4);
        while (x.count(4) < 12) {
            answer = x.push(70 + 5 * x.count(4));
        }
        return answer;
    }

    private void misfits() {
        for (int block = 0; block < x.count(0); block++) {
            for (int turn = 0; turn < 12; turn += 5) {
                int b = block;
                int t = turn;
                ask("misfit " + b + " " + t, () -> x.misfit(b, t));
            }
        }
    }
}
