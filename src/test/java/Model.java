import java.util.ArrayList;
import java.util.HashMap;
import java.util.List;
import java.util.Map;
import java.util.regex.Matcher;
import java.util.regex.Pattern;

/** The document said a second time, slowly and by other means, for RandomRunsTest to compare with. */
final class Model {
    private static final class Order {
        int block, turn, misfit, price, steam, on, due, weight;
        int start = -1, done = -1, held = -1;
        Integer fit;
    }

    private static final Pattern TOKEN = Pattern.compile(" *(?:([a-z]+)|([0-9]+)|(,)|(.)|$)", Pattern.DOTALL);

    private final List<Integer> hand = new ArrayList<>();
    private final List<List<Integer>> blocks = new ArrayList<>();
    private final List<Order> orders = new ArrayList<>();
    private final List<Order> went = new ArrayList<>();
    private final StringBuilder tape = new StringBuilder();
    private int now = 0;
    private int fault = -1;

    int push(int radius) {
        if (radius < 50 || radius > 200) {
            throw new IllegalArgumentException();
        }
        if (hand.size() == 12) {
            return -1;
        }
        hand.add(radius);
        return hand.size();
    }

    int block() {
        if (blocks.size() == 10) {
            throw new IllegalStateException();
        }
        if (hand.size() != 12) {
            return -1;
        }
        blocks.add(List.copyOf(hand));
        hand.clear();
        return blocks.size() - 1;
    }

    int feed(int... numbers) {
        if (tape.length() + 20 > 100) {
            return -1;
        }
        for (int number : numbers) {
            tape.append((char) (number >> 24 & 255)).append((char) (number >> 16 & 255));
            tape.append((char) (number >> 8 & 255)).append((char) (number & 255));
        }
        return tape.length();
    }

    int order(int n, int due, int weight) {
        if (n < 0 || n > tape.length() || due < 0 || due > 1000000 || weight < 1 || weight > 9) {
            throw new IllegalArgumentException();
        }
        if (hand.size() != 12) {
            return -1;
        }
        if (blocks.isEmpty()) {
            return -2;
        }
        if (orders.size() == 60) {
            return -3;
        }
        String hat = tape.substring(0, n);
        List<Integer> head = List.copyOf(hand);
        tape.setLength(0);
        hand.clear();
        Map<String, Integer> parts = new HashMap<>();
        int[] found = read(hat, parts);
        fault = found[1];
        if (found[0] != 0) {
            return found[0] - 10;
        }
        Order o = new Order();
        match(o, head);
        int crown = parts.get("crown");
        int felt = parts.get("felt");
        int brim = parts.getOrDefault("brim", 0);
        o.price = 4 * crown * felt + 3 * brim * felt + 10 * parts.getOrDefault("band", 0);
        o.steam = 6 * felt + brim;
        o.on = 10 + crown + 20 * felt;
        o.due = due;
        o.weight = weight;
        orders.add(o);
        return orders.size() - 1;
    }

    private static int[] read(String hat, Map<String, Integer> parts) {
        Map<String, int[]> limits = Map.of("crown", new int[] {5, 30}, "brim", new int[] {0, 20},
            "band", new int[] {0, 9}, "felt", new int[] {1, 5});
        Matcher m = TOKEN.matcher(hat);
        // 0 a word must come, 1 a number, 2 a comma or the end
        int state = 0;
        String word = "";
        int from = 0;
        while (true) {
            m.find(from);
            int at = m.end();
            for (int g = 1; g <= 4; g++) {
                at = m.group(g) == null ? at : m.start(g);
            }
            if (state == 0 && m.group(1) != null && limits.containsKey(m.group(1)) && !parts.containsKey(m.group(1))) {
                word = m.group(1);
                state = 1;
            } else if (state == 1 && m.group(2) != null) {
                java.math.BigInteger value = new java.math.BigInteger(m.group(2));
                int small = value.bitLength() > 20 ? 1000 : value.intValue();
                if (small < limits.get(word)[0] || small > limits.get(word)[1]) {
                    return new int[] {2, at};
                }
                parts.put(word, small);
                state = 2;
            } else if (state == 2 && m.group(3) != null) {
                state = 0;
            } else if (state == 2 && at == hat.length()) {
                break;
            } else {
                return new int[] {1, at};
            }
            from = m.end();
        }
        return parts.containsKey("crown") && parts.containsKey("felt") ? new int[] {0, -1} : new int[] {3, hat.length()};
    }

    private static int misfit(List<Integer> head, List<Integer> ring, int turn) {
        int sum = 0;
        for (int i = 0; i < 12; i++) {
            sum += (int) Math.pow(head.get((i + turn) % 12) - ring.get(i), 2);
        }
        return sum;
    }

    private void match(Order o, List<Integer> head) {
        long least = Long.MAX_VALUE;
        for (int b = 0; b < blocks.size(); b++) {
            for (int t = 0; t < 12; t++) {
                long key = (misfit(head, blocks.get(b), t) * 100L + t) * 100L + b;
                if (key < least) {
                    least = key;
                    o.block = b;
                    o.turn = t;
                    o.misfit = misfit(head, blocks.get(b), t);
                }
            }
        }
    }

    int fault() {
        return fault;
    }

    int misfit(int block, int turn) {
        ring(block);
        if (turn < 0 || turn > 11) {
            throw new IllegalArgumentException();
        }
        return hand.size() == 12 ? misfit(hand, blocks.get(block), turn) : -1;
    }

    private void ring(int block) {
        if (block < 0 || block >= blocks.size()) {
            throw new IndexOutOfBoundsException();
        }
    }

    private Order row(int order) {
        if (order < 0 || order >= orders.size()) {
            throw new IndexOutOfBoundsException();
        }
        return orders.get(order);
    }

    int told(int order, int what) {
        Order o = row(order);
        int state = o.start == -1 ? 0 : o.done > now ? 1 : 2;
        int[] all = {o.block, o.turn, o.misfit, o.price, o.steam, o.on, o.due, o.weight, state, o.start, o.done, o.held};
        if (what < 0 || what > 11) {
            throw new IllegalArgumentException();
        }
        return all[what];
    }

    int go(int order) {
        Order o = row(order);
        if (o.start != -1) {
            return -1;
        }
        send(o);
        return o.start;
    }

    /** Minute by minute, looking at all that went. */
    private void send(Order o) {
        Order steamed = null;
        Order blocked = null;
        for (Order e : went) {
            steamed = e;
            blocked = e.block == o.block ? e : blocked;
        }
        int s = now;
        while (steamed != null && steamed.start + steamed.steam > s || blocked != null && blocked.done > s + o.steam) {
            s++;
        }
        if (s > now) {
            boolean bySteamer = steamed != null && steamed.start + steamed.steam >= s;
            o.held = orders.indexOf(bySteamer ? steamed : blocked);
        }
        o.start = s;
        o.done = s + o.steam + o.on;
        went.add(o);
    }

    private void back(Order o) {
        o.start = -1;
        o.done = -1;
        o.held = -1;
        went.remove(went.size() - 1);
    }

    int wait(int minutes) {
        if (minutes < 0 || minutes > 10000 || now + minutes > 1000000) {
            throw new IllegalArgumentException();
        }
        now += minutes;
        return now;
    }

    private List<Order> bestOrder = List.of();
    private long bestCost;

    private void findBest() {
        List<Order> waiting = new ArrayList<>();
        for (Order o : orders) {
            if (o.start == -1 && waiting.size() < 7) {
                waiting.add(o);
            }
        }
        bestOrder = List.of();
        bestCost = waiting.isEmpty() ? 0 : Long.MAX_VALUE;
        permute(waiting, new ArrayList<>());
    }

    private void permute(List<Order> left, List<Order> gone) {
        if (left.isEmpty()) {
            long cost = 0;
            for (Order o : gone) {
                cost += (long) o.weight * o.done;
            }
            if (cost < bestCost) {
                bestCost = cost;
                bestOrder = List.copyOf(gone);
            }
            return;
        }
        for (Order o : left) {
            List<Order> rest = new ArrayList<>(left);
            rest.remove(o);
            send(o);
            gone.add(o);
            permute(rest, gone);
            gone.remove(gone.size() - 1);
            back(o);
        }
    }

    long plan() {
        findBest();
        return bestCost;
    }

    int planned(int k) {
        findBest();
        return k < 0 || k >= bestOrder.size() ? -1 : orders.indexOf(bestOrder.get(k));
    }

    int run() {
        findBest();
        for (Order o : bestOrder) {
            send(o);
        }
        return bestOrder.size();
    }

    int late(int k) {
        List<Integer> late = new ArrayList<>();
        for (int i = 0; i < orders.size(); i++) {
            Order o = orders.get(i);
            if (o.start == -1 && now > o.due || o.start != -1 && o.done > o.due) {
                late.add(i);
            }
        }
        return k < 0 || k >= late.size() ? -1 : late.get(k);
    }

    int fit(int order, int fit) {
        Order o = row(order);
        if (fit < -2 || fit > 2) {
            throw new IllegalArgumentException();
        }
        if (o.start == -1 || o.done > now) {
            return -1;
        }
        if (o.fit != null) {
            return 0;
        }
        o.fit = fit;
        return 1;
    }

    int wear(int block, int what) {
        ring(block);
        if (what < 0 || what > 2) {
            throw new IllegalArgumentException();
        }
        int[] all = new int[3];
        for (Order o : went) {
            if (o.block == block) {
                all[0]++;
                all[1] += o.fit == null ? 0 : 1;
                all[2] += o.fit == null ? 0 : o.fit;
            }
        }
        return all[what];
    }

    int count(int what) {
        int waiting = orders.size() - went.size();
        Order last = went.isEmpty() ? null : went.get(went.size() - 1);
        int free = last == null ? 0 : last.start + last.steam;
        int[] all = {blocks.size(), orders.size(), waiting, now, hand.size(), tape.length(), free};
        return what < 0 || what > 6 ? -1 : all[what];
    }
}
