import java.util.function.IntToLongFunction;
import java.util.function.Supplier;

/** What the tests share: counting wrong answers, and short ways to fill hand and tape. */
final class Check {
    interface Call {
        long answer();
    }

    interface Asked {
        long answer(HatWorks x, int value);
    }

    private static int wrong = 0;
    private static String sentence = "";

    private Check() {
    }

    /** The document's words that the checks from here on are about. */
    static void sentence(String words) {
        sentence = words;
    }

    private static void tell(String what) {
        wrong++;
        System.out.println(what + (sentence.isEmpty() ? "" : "   [" + sentence + "]"));
    }

    static void due(String what, long got, long want) {
        if (got != want) {
            tell(what + " answered " + got + ", due is " + want);
        }
    }

    static void due(String what, String got, String want) {
        if (!got.equals(want)) {
            tell(what + " answered " + got + ", due is " + want);
        }
    }

    /** The answer as a text, or the simple name of what was thrown. */
    static String outcome(Call call) {
        try {
            return Long.toString(call.answer());
        } catch (RuntimeException e) {
            return e.getClass().getSimpleName();
        }
    }

    static void throwing(String what, Class<? extends RuntimeException> due, Call call) {
        due(what, outcome(call), due.getSimpleName());
    }

    static void illegal(String what, Call call) {
        throwing(what, IllegalArgumentException.class, call);
    }

    static void outside(String what, Call call) {
        throwing(what, IndexOutOfBoundsException.class, call);
    }

    /**
     * Values from least to most are taken and answered as due, those beyond are refused: tried at both
     * ends and a step to either side of them, and at the ends of int, each on an object of its own.
     */
    static void range(String what, int least, int most, Class<? extends RuntimeException> refusal,
            Supplier<HatWorks> made, Asked call, IntToLongFunction want) {
        int[] values = {Integer.MIN_VALUE, least - 1, least, least + 1, most - 1, most, most + 1, Integer.MAX_VALUE};
        for (int value : values) {
            boolean taken = value >= least && value <= most;
            HatWorks x = made.get();
            due(what + " of " + value, outcome(() -> call.answer(x, value)),
                taken ? Long.toString(want.applyAsLong(value)) : refusal.getSimpleName());
        }
    }

    static void end() {
        if (wrong != 0) {
            System.out.println(wrong + " answers are not as due");
            System.exit(1);
        }
    }

    static void push(HatWorks x, int... radii) {
        for (int radius : radii) {
            x.push(radius);
        }
    }

    /** So many radii, all the same. */
    static void pushSome(HatWorks x, int many, int radius) {
        for (int i = 0; i < many; i++) {
            x.push(radius);
        }
    }

    /** Twelve radii, all the same but for the one at a place. */
    static void pushPeak(HatWorks x, int at, int peak, int others) {
        for (int i = 0; i < 12; i++) {
            x.push(i == at ? peak : others);
        }
    }

    /** Twelve radii, all the same but for the first. */
    static void pushRing(HatWorks x, int first, int others) {
        pushPeak(x, 0, first, others);
    }

    static int addBlock(HatWorks x, int first, int others) {
        pushRing(x, first, others);
        return x.block();
    }

    /** A new object with blocks of these radii, each the same all round. */
    static HatWorks works(int... radii) {
        HatWorks x = new HatWorks();
        for (int radius : radii) {
            addBlock(x, radius, radius);
        }
        return x;
    }

    /** Feeds a text by twenties, the last of them filled with zeros. */
    static void feed(HatWorks x, String text) {
        for (int from = 0; from < text.length(); from += 20) {
            int[] words = new int[5];
            for (int i = 0; i < 20; i++) {
                int sign = from + i < text.length() ? text.charAt(from + i) : 0;
                words[i / 4] = words[i / 4] << 8 | sign;
            }
            x.feed(words[0], words[1], words[2], words[3], words[4]);
        }
    }

    /** An order for a head that is the ring of addBlock(x, radius, radius). */
    static int addOrder(HatWorks x, int radius, String hat, int due, int weight) {
        pushRing(x, radius, radius);
        feed(x, hat);
        return x.order(hat.length(), due, weight);
    }
}
