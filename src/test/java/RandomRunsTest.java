import java.util.Random;

/** Runs of calls drawn from fixed seeds, with every answer compared with the model's. */
public final class RandomRunsTest {
    private static final int RUNS = 1500;
    private static final int CALLS = 512;
    private static final int[] ODD = {Integer.MIN_VALUE, -3, -2, -1, 0, 1, 2, 3, 12, 60, 61, Integer.MAX_VALUE};

    private final Random random;
    private final HatWorks x = new HatWorks();
    private final Model model = new Model();
    private final String name;
    private final int spread;
    private int calls = 0;

    private RandomRunsTest(int seed) {
        random = new Random(seed);
        name = "run " + seed + ", ";
        spread = 1 + random.nextInt(4);
    }

    public static void main(String[] args) {
        for (int seed = 0; seed < RUNS; seed++) {
            new RandomRunsTest(seed).all();
        }
        Check.end();
    }

    /** Most runs begin with few blocks; some with all ten, some near the last minute. */
    private void all() {
        int kind = random.nextInt(10);
        int first = kind == 0 ? 10 : 1 + random.nextInt(4);
        for (int k = 0; k < first; k++) {
            ring();
            same("block", x::block, model::block);
        }
        for (int k = 0; k < 100 && kind == 1; k++) {
            int minutes = 10000 - random.nextInt(8);
            same("wait " + minutes, () -> x.wait(minutes), () -> model.wait(minutes));
        }
        while (calls < CALLS - 30) {
            step(random.nextInt(40));
        }
    }

    private void same(String what, Check.Call mine, Check.Call due) {
        calls++;
        Check.due(name + "call " + calls + ", " + what, Check.outcome(mine), Check.outcome(due));
    }

    private void step(int kind) {
        int order = some(model.count(1));
        int block = some(model.count(0));
        int small = random.nextInt(14) - 1;
        if (kind < 9) {
            newOrder();
        } else if (kind < 12) {
            same("go " + order, () -> x.go(order), () -> model.go(order));
        } else if (kind < 15) {
            int minutes = random.nextInt(20) == 0 ? ODD[random.nextInt(ODD.length)] : random.nextInt(90);
            same("wait " + minutes, () -> x.wait(minutes), () -> model.wait(minutes));
        } else if (kind < 21) {
            same("told " + order + " " + small, () -> x.told(order, small), () -> model.told(order, small));
        } else if (kind < 23 && (model.count(2) < 6 || random.nextInt(8) == 0)) {
            same("plan", x::plan, model::plan);
            same("planned " + small, () -> x.planned(small), () -> model.planned(small));
        } else if (kind == 23 && random.nextInt(4) == 0) {
            same("run", x::run, model::run);
        } else if (kind < 27) {
            same("late " + small, () -> x.late(small), () -> model.late(small));
        } else if (kind < 31) {
            int fit = random.nextInt(7) - 3;
            same("fit " + order + " " + fit, () -> x.fit(order, fit), () -> model.fit(order, fit));
        } else if (kind < 34) {
            int what = random.nextInt(5) - 1;
            same("wear " + block + " " + what, () -> x.wear(block, what), () -> model.wear(block, what));
        } else if (kind < 38) {
            same("count " + small, () -> x.count(small), () -> model.count(small));
        } else {
            rare(random.nextInt(5), block, small);
        }
    }

    private void rare(int kind, int block, int small) {
        if (kind == 0) {
            int radius = random.nextInt(160) + 45;
            same("push " + radius, () -> x.push(radius), () -> model.push(radius));
        } else if (kind == 1) {
            same("block", x::block, model::block);
        } else if (kind == 2) {
            int n = some(model.count(5));
            int weight = random.nextInt(11);
            same("order " + n, () -> x.order(n, 0, weight), () -> model.order(n, 0, weight));
        } else if (kind == 3) {
            ring();
            same("misfit " + block + " " + small, () -> x.misfit(block, small), () -> model.misfit(block, small));
        } else {
            int a = random.nextInt();
            same("feed", () -> x.feed(a, a, a, a, a), () -> model.feed(a, a, a, a, a));
        }
    }

    /** Mostly one that is there, now and then one that is not. */
    private int some(int size) {
        return size == 0 || random.nextInt(16) == 0 ? ODD[random.nextInt(ODD.length)] : random.nextInt(size);
    }

    private void ring() {
        int at = random.nextInt(12);
        for (int i = 0; i < 12; i++) {
            int radius = 100 + random.nextInt(spread) + (i == at ? 5 : 0);
            same("push " + radius, () -> x.push(radius), () -> model.push(radius));
        }
    }

    private void newOrder() {
        ring();
        String hat = hat();
        for (int from = 0; from < hat.length(); from += 20) {
            int[] words = new int[5];
            for (int i = 0; i < 20; i++) {
                words[i / 4] = words[i / 4] << 8 | (from + i < hat.length() ? hat.charAt(from + i) : ' ');
            }
            same("feed", () -> x.feed(words[0], words[1], words[2], words[3], words[4]), () -> model.feed(words));
        }
        int n = Math.min(hat.length(), model.count(5));
        int due = random.nextInt(400);
        int weight = 1 + random.nextInt(9);
        same("order of '" + hat + "'", () -> x.order(n, due, weight), () -> model.order(n, due, weight));
        same("fault of '" + hat + "'", x::fault, model::fault);
    }

    private String hat() {
        StringBuilder text = new StringBuilder();
        text.append("crown ").append(5 + random.nextInt(26));
        part(text, "brim", 21);
        part(text, "band", 10);
        text.insert(random.nextBoolean() ? 0 : text.length(), random.nextBoolean() ? "" : " ");
        if (random.nextBoolean()) {
            text.append(",felt").append(1 + random.nextInt(5));
        } else {
            text.insert(0, "felt " + (1 + random.nextInt(5)) + " , ");
        }
        for (int k = random.nextInt(4); k > 2; k--) {
            spoil(text);
        }
        return text.toString();
    }

    private void part(StringBuilder text, String word, int limit) {
        if (random.nextBoolean()) {
            text.append(", ").append(word).append(' ').append(random.nextInt(limit));
        }
    }

    private void spoil(StringBuilder text) {
        int at = random.nextInt(text.length());
        String signs = "crownbimadfelt0123456789,, A";
        char sign = signs.charAt(random.nextInt(signs.length()));
        switch (random.nextInt(4)) {
            case 0:
                text.insert(at, sign);
                break;
            case 1:
                text.setCharAt(at, sign);
                break;
            case 2:
                text.setLength(at);
                break;
            default:
                text.deleteCharAt(at);
                break;
        }
    }
}
