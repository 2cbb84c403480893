/** What the tests share: counting wrong answers, and short ways to fill hand and tape. */
final class Check {
    interface Call {
        long answer();
    }

    private static int wrong = 0;

    private Check() {
    }

    static void due(String what, long got, long want) {
        if (got != want) {
            wrong++;
            System.out.println(what + " answered " + got + ", due is " + want);
        }
    }

    static void throwing(String what, Class<? extends RuntimeException> due, Call call) {
        String got;
        try {
            got = "answered " + call.answer();
        } catch (RuntimeException e) {
            if (e.getClass() == due) {
                return;
            }
            got = "threw " + e.getClass().getSimpleName();
        }
        wrong++;
        System.out.println(what + " " + got + ", due is " + due.getSimpleName());
    }

    static void illegal(String what, Call call) {
        throwing(what, IllegalArgumentException.class, call);
    }

    static void outside(String what, Call call) {
        throwing(what, IndexOutOfBoundsException.class, call);
    }

    static void end() {
        if (wrong != 0) {
            System.out.println(wrong + " answers are not as due");
            System.exit(1);
        }
    }

    /** Twelve radii, all the same but for the first. */
    static void pushRing(HatWorks x, int first, int others) {
        x.push(first);
        for (int i = 1; i < 12; i++) {
            x.push(others);
        }
    }

    static int addBlock(HatWorks x, int first, int others) {
        pushRing(x, first, others);
        return x.block();
    }

    /** Feeds a text by twenties, the last of them filled with zeros. */
    static void feed(HatWorks x, String text) {
        for (int from = 0; from < text.length(); from += 20) {
            int[] words = new int[5];
            for (int i = 0; i < 20; i++) {
                int sign = from + i < text.length() ? text.charAt(from + i) : 0;
                words[i / 4] = words[i / 4] << 8 | sign;
            }
            x.feed(words[0], words[1], words[2], words[3], words[4]);
        }
    }

    /** An order for a head that is the ring of addBlock(x, radius, radius). */
    static int addOrder(HatWorks x, int radius, String hat, int due, int weight) {
        pushRing(x, radius, radius);
        feed(x, hat);
        return x.order(hat.length(), due, weight);
    }
}
