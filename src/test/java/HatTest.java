/** Terms ==== 2 and promise 6: hats, what they make, their faults and where these stand. */
public final class HatTest {
    private static final String[] PARTS = {"crown", "brim", "band", "felt"};
    private static final int[] LEAST = {5, 0, 0, 1};
    private static final int[] MOST = {30, 20, 9, 5};

    public static void main(String[] args) {
        partsInAnyOrder();
        numbersOfEachPart();
        digitsAsManyAsStand();
        numbersTooLong();
        wordsAsManyAsStand();
        blanksAhead();
        noBlanksInside();
        everyByteAhead();
        everyByteBehindAWord();
        everyByteBehindANumber();
        everyByteAtTheEnd();
        partASecondTime();
        crownAndFelt();
        withoutBrimAndBand();
        endsTooEarly();
        emptyHat();
        fullTape();
        onlyTheFirstBytes();
        cannotStand();
        firstFromTheLeft();
        behindAllAtTheLength();
        priceAndMinutes();
        faultOfTheLatest();
        faultOfNone();
        Check.end();
    }

    private static HatWorks reader() {
        HatWorks x = Check.works(100);
        Check.pushSome(x, 12, 100);
        return x;
    }

    /** Of a new object with the hat as its first order. */
    private static void read(String hat, int n, int answer, int place) {
        HatWorks x = reader();
        Check.feed(x, hat);
        Check.due(n + " bytes of '" + hat + "'", x.order(n, 0, 1), answer);
        Check.due("fault of " + n + " bytes of '" + hat + "'", x.fault(), place);
        Check.due("orders behind '" + hat + "'", x.count(1), answer == 0 ? 1 : 0);
    }

    private static void good(String hat) {
        read(hat, hat.length(), 0, -1);
    }

    private static void fault(int kind, int place, String hat) {
        read(hat, hat.length(), kind - 10, place);
    }

    private static void makes(String hat, int price, int steam, int on) {
        HatWorks x = reader();
        Check.feed(x, hat);
        Check.due(hat, x.order(hat.length(), 0, 1), 0);
        Check.due("price of " + hat, x.told(0, 3), price);
        Check.due("steam of " + hat, x.told(0, 4), steam);
        Check.due("on of " + hat, x.told(0, 5), on);
    }

    private static void partsInAnyOrder() {
        Check.sentence("HATS are texts: PART { \",\" PART }.");
        String[] parts = {"crown 17", "brim 1", "band 3", "felt 2"};
        for (int a = 0; a < 4; a++) {
            for (int b = 0; b < 4; b++) {
                for (int c = 0; c < 4; c++) {
                    int d = 6 - a - b - c;
                    if (a != b && a != c && b != c) {
                        makes(parts[a] + "," + parts[b] + "," + parts[c] + "," + parts[d], 172, 13, 67);
                    }
                }
            }
        }
        fault(3, 8, "crown 17");
        makes("crown 17,felt 2", 136, 12, 67);
        makes("crown 17,felt 2,band 3", 166, 12, 67);
        fault(1, 33, "crown 17,brim 1,band 3,felt 2,   felt 2");
        fault(1, 30, "crown 17,brim 1,band 3,felt 2,");
    }

    private static void numbersOfEachPart() {
        Check.sentence("\"crown\" N (5 to 30), \"brim\" N (0 to 20), \"band\" N (0 to 9) or \"felt\" N (1 to 5)");
        for (int part = 0; part < 4; part++) {
            for (int n = 0; n <= 40; n++) {
                int[] value = {5, 0, 0, 1};
                value[part] = n;
                String others = part == 0 ? ",felt 1" : part == 3 ? ",crown 5" : ",felt 1,crown 5";
                String hat = PARTS[part] + " " + n + others;
                if (n < LEAST[part] || n > MOST[part]) {
                    fault(2, PARTS[part].length() + 1, hat);
                } else {
                    makes(hat, 4 * value[0] * value[3] + 3 * value[1] * value[3] + 10 * value[2],
                        6 * value[3] + value[1], 10 + value[0] + 20 * value[3]);
                }
            }
        }
        fault(1, 5, "brim -1,crown 5,felt 1");
        fault(1, 5, "band -1,crown 5,felt 1");
        fault(1, 6, "crown +5,felt 1");
    }

    private static void digitsAsManyAsStand() {
        Check.sentence("N: digits, as many as stand there");
        makes("crown 05,felt 1", 20, 6, 35);
        makes("crown 030,felt 005", 600, 30, 140);
        makes("crown 5,felt 1,brim 00,band 000", 20, 6, 35);
        makes("crown 10,felt 1", 40, 6, 40);
        fault(2, 6, "crown 031,felt 1");
        fault(2, 6, "crown 004,felt 1");
        fault(2, 5, "felt 00,crown 5");
        fault(2, 13, "crown 5,felt 11");
        fault(2, 6, "crown 050,felt 1");
        fault(2, 6, "crown 100,felt 1");
    }

    private static void numbersTooLong() {
        Check.sentence("N: digits, as many as stand there");
        String zeros = "0".repeat(80);
        makes("felt " + zeros + "5,crown 5 ", 100, 30, 115);
        fault(2, 5, "felt " + zeros + "6,crown 5 ");
        fault(2, 5, "felt " + "9".repeat(95));
        fault(2, 5, "felt 1" + zeros + ",crown 5");
        // These are 5, or 1, if an int or a long wraps around.
        fault(2, 6, "crown 4294967301,felt 1");
        fault(2, 6, "crown 18446744073709551621,felt 1");
        fault(2, 5, "felt 4294967297,crown 5");
        fault(2, 5, "felt 18446744073709551617,crown 5");
        fault(2, 20, "crown 5,felt 1,brim 2147483648");
        fault(2, 20, "crown 5,felt 1,brim 4294967296");
        fault(2, 20, "crown 5,felt 1,band 9223372036854775808");
    }

    private static void wordsAsManyAsStand() {
        Check.sentence("WORDS: small letters, as many as stand there");
        for (String part : PARTS) {
            String rest = " 5,crown 5,felt 1";
            String cut = part.substring(0, part.length() - 1);
            fault(1, 0, cut + rest);
            fault(1, 0, part + "a" + rest);
            fault(1, 0, part + "z" + rest);
            fault(1, 0, part + part + rest);
            fault(1, 0, "a" + part + rest);
            fault(1, 0, part.toUpperCase() + rest);
            for (int i = 0; i < part.length(); i++) {
                fault(1, 0, part.substring(0, i) + (char) (part.charAt(i) + 1) + part.substring(i + 1) + rest);
            }
            fault(1, 0, cut + part.substring(cut.length()).toUpperCase() + rest);
            fault(1, 2, "  " + cut + rest);
        }
        fault(1, 0, "crownfelt 5");
        fault(1, 0, "hat 5,crown 5,felt 1");
        fault(1, 8, "crown 5,fel 1");
        fault(1, 8, "crown 5,felts 1");
        fault(1, 0, "brin 5,crown 5,felt 1");
        fault(1, 0, "bamd 5,crown 5,felt 1");
    }

    private static void blanksAhead() {
        Check.sentence("blanks (32) may stand ahead of all these, and at the end");
        int[] many = {0, 1, 2, 20};
        for (int k : many) {
            String blanks = " ".repeat(k);
            makes(blanks + "crown 5,felt 1", 20, 6, 35);
            makes("crown" + blanks + "5,felt 1", 20, 6, 35);
            makes("crown 5" + blanks + ",felt 1", 20, 6, 35);
            makes("crown 5," + blanks + "felt 1", 20, 6, 35);
            makes("crown 5,felt" + blanks + "1", 20, 6, 35);
            makes("crown 5,felt 1" + blanks, 20, 6, 35);
        }
        makes("  felt  5 , crown  30 , brim 20,   band  9  ", 990, 50, 140);
    }

    private static void noBlanksInside() {
        Check.sentence("WORDS: small letters, as many as stand there; N: digits, as many as stand there");
        fault(1, 0, "cro wn 5,felt 1");
        fault(1, 8, "crown 5 1,felt 1");
        fault(1, 9, "crown 15 5,felt 1");
        fault(1, 8, "crown 5 felt 1");
        fault(1, 6, "crown5felt 1");
        fault(1, 6, "crown felt 1");
    }

    private static boolean isDigit(int sign) {
        return sign >= '0' && sign <= '9';
    }

    private static boolean isSmall(int sign) {
        return sign >= 'a' && sign <= 'z';
    }

    private static void everyByteAhead() {
        Check.sentence("1 what can't stand there: every byte ahead of a word");
        for (int sign = 0; sign < 256; sign++) {
            String hat = (char) sign + "crown 5,felt 1";
            if (sign == ' ') {
                good(hat);
            } else {
                fault(1, 0, hat);
            }
        }
    }

    private static void everyByteBehindAWord() {
        Check.sentence("1 what can't stand there: every byte behind a word");
        for (int sign = 0; sign < 256; sign++) {
            String hat = "crown" + (char) sign + "5,felt 1";
            if (sign == ' ' || sign >= '0' && sign <= '2') {
                good(hat);
            } else if (isDigit(sign)) {
                fault(2, 5, hat);
            } else {
                fault(1, isSmall(sign) ? 0 : 5, hat);
            }
        }
    }

    private static void everyByteBehindANumber() {
        Check.sentence("1 what can't stand there: every byte behind a number");
        for (int sign = 0; sign < 256; sign++) {
            String hat = "crown 5" + (char) sign + "felt 1";
            if (sign == ',') {
                good(hat);
            } else if (isDigit(sign)) {
                fault(2, 6, hat);
            } else {
                fault(1, sign == ' ' ? 8 : 7, hat);
            }
        }
    }

    private static void everyByteAtTheEnd() {
        Check.sentence("1 what can't stand there: every byte behind the last number");
        for (int sign = 0; sign < 256; sign++) {
            String hat = "crown 5,felt 1" + (char) sign;
            if (sign == ' ') {
                good(hat);
            } else if (isDigit(sign)) {
                fault(2, 13, hat);
            } else {
                fault(1, sign == ',' ? 15 : 14, hat);
            }
        }
    }

    private static void partASecondTime() {
        Check.sentence("Each PART once at most; 1 what can't stand there (a PART a second time, too");
        int[] value = {5, 0, 0, 1};
        for (int part = 0; part < 4; part++) {
            String once = PARTS[part] + " " + value[part];
            fault(1, once.length() + 1, once + "," + once);
            fault(1, once.length() + 3, once + ",  " + once + ",crown 5,felt 1");
            fault(1, 29, "crown 5,brim 0,band 0,felt 1," + once);
            fault(1, 29, "crown 5,brim 0,band 0,felt 1," + PARTS[part]);
            fault(1, 29, "crown 5,brim 0,band 0,felt 1," + PARTS[part] + " 99");
            fault(1, 29, "crown 5,brim 0,band 0,felt 1," + PARTS[part] + " x");
        }
        fault(1, 15, "crown 5,brim 1,crown 5,felt 1");
    }

    private static void crownAndFelt() {
        Check.sentence("a HAT has a crown and a felt; behind all, at the length: 3 no crown, or no felt");
        fault(3, 7, "crown 5");
        fault(3, 6, "felt 1");
        fault(3, 6, "brim 0");
        fault(3, 6, "band 0");
        fault(3, 13, "brim 0,band 0");
        fault(3, 21, "crown 5,brim 0,band 0");
        fault(3, 20, "felt 1,brim 0,band 0");
        good("crown 5,felt 1");
    }

    private static void withoutBrimAndBand() {
        Check.sentence("brim and band are 0 without");
        makes("crown 5,felt 1", 20, 6, 35);
        makes("crown 5,felt 1,brim 0", 20, 6, 35);
        makes("crown 5,felt 1,brim 1", 23, 7, 35);
        makes("crown 5,felt 1,band 0", 20, 6, 35);
        makes("crown 5,felt 1,band 1", 30, 6, 35);
        // What an earlier hat had is not kept for a later one.
        HatWorks x = Check.works(100);
        Check.addOrder(x, 100, "crown 30,brim 20,band 9,felt 5", 0, 1);
        Check.addOrder(x, 100, "crown 5,felt 1", 0, 1);
        Check.due("price behind a dear one", x.told(1, 3), 20);
        Check.due("steam behind a dear one", x.told(1, 4), 6);
    }

    private static void endsTooEarly() {
        Check.sentence("at the length, if the text ends too early");
        String hat = "crown 5,brim 1,band 2,felt 3";
        int[] kind = {1, 1, 1, 1, 1, 1, 1, 3, 1, 1, 1, 1, 1, 1, 3, 1, 1, 1, 1, 1, 1, 3, 1, 1, 1, 1, 1, 1};
        int[] place = {0, 0, 0, 0, 0, 5, 6, 7, 8, 8, 8, 8, 12, 13, 14, 15, 15, 15, 15, 19, 20, 21, 22, 22, 22, 22, 26, 27};
        for (int n = 0; n < 28; n++) {
            read(hat, n, kind[n] - 10, place[n]);
        }
        read(hat, 28, 0, -1);
        fault(1, 9, "crown    ");
        fault(1, 12, "crown 5,    ");
        fault(3, 11, "crown 5    ");
        fault(1, 15, "crown 5,felt 1,");
        fault(1, 18, "crown 5,felt 1,   ");
    }

    private static void emptyHat() {
        Check.sentence("at the length, if the text ends too early");
        fault(1, 0, "");
        fault(1, 1, " ");
        fault(1, 3, "   ");
        read("crown 5,felt 1", 0, -9, 0);
        fault(1, 100, " ".repeat(100));
    }

    private static void fullTape() {
        Check.sentence("the first n bytes of the TAPE are the HAT");
        makes("crown 5,felt 1" + " ".repeat(86), 20, 6, 35);
        makes(" ".repeat(86) + "crown 5,felt 1", 20, 6, 35);
        makes("crown 5" + " ".repeat(86) + ",felt 1", 20, 6, 35);
        fault(1, 99, "crown 5,felt 1" + " ".repeat(85) + "x");
        fault(3, 100, "crown 5" + " ".repeat(93));
        fault(1, 100, "crown 5" + " ".repeat(92) + ",");
    }

    private static void onlyTheFirstBytes() {
        Check.sentence("the first n bytes of the TAPE are the HAT");
        read("crown 5,felt 12", 14, 0, -1);
        read("crown 5,felt 12", 15, -8, 13);
        read("crown 5,felt 1x", 14, 0, -1);
        read("crown 5,felt 1x", 15, -9, 14);
        read("crown 5,felt 1  x", 16, 0, -1);
        read("crown 5,felt 1  x", 17, -9, 16);
        read("crown  5,felt 1", 6, -9, 6);
        read("crown 30,felt 1", 7, -8, 6);
    }

    private static void cannotStand() {
        Check.sentence("1 what can't stand there, at its first byte");
        fault(1, 0, ",");
        fault(1, 0, ",crown 5,felt 1");
        fault(1, 0, "5");
        fault(1, 5, "crown,felt 1");
        fault(1, 6, "crown ,felt 1");
        fault(1, 8, "crown 5,,felt 1");
        fault(1, 9, "crown 5, ,felt 1");
        fault(1, 8, "crown 5,5,felt 1");
        fault(1, 7, "crown 5;felt 1");
        fault(1, 14, "crown 5,felt 1.");
        fault(1, 15, "crown 5,felt 1 x");
        fault(1, 15, "crown 5,felt 1 felt");
        fault(1, 6, "crown five,felt 1");
        fault(1, 6, "crown -5,felt 1");
        fault(1, 5, "crown\t5,felt 1");
        fault(1, 14, "crown 5,felt 1\0");
        fault(1, 14, "crown 5,felt 1\n");
        fault(1, 8, "crown 5,\u00e6felt 1");
        fault(1, 14, "crown 5,felt 1\u00a0");
    }

    private static void firstFromTheLeft() {
        Check.sentence("FAULTS, the first from the left, at its first byte");
        fault(2, 6, "crown 4 x");
        fault(2, 6, "crown 4,felt");
        fault(2, 6, "crown 4,crown 5");
        fault(2, 6, "crown 4,felt 9");
        fault(2, 6, "crown 4");
        fault(2, 6, "crown 31x");
        fault(2, 8, "crown   31,felt 1");
        fault(1, 5, "crown,felt 9");
        fault(1, 8, "crown 5 felt 9");
        fault(1, 8, "crown 5,crown 99");
        fault(1, 0, "hat 99,crown 4");
        fault(2, 13, "crown 5,felt 9,brim 99");
        fault(2, 20, "crown 5,felt 5,brim 99;");
        fault(1, 7, "crown 5;felt 9");
        fault(1, 7, "crown 5;");
        fault(2, 5, "brim 21");
    }

    private static void behindAllAtTheLength() {
        Check.sentence("behind all, at the length: 3 no crown, or no felt");
        fault(3, 16, "crown 5,brim 3  ");
        fault(3, 20, "band 1,felt 2,brim 3");
        fault(1, 14, "brim 1,band 2 x");
        fault(1, 14, "brim 1,band 2,");
        fault(2, 12, "brim 1,band 10");
        read("crown 5   ", 7, -7, 7);
        read("crown 5   ", 8, -7, 8);
        read("crown 5   ", 10, -7, 10);
    }

    private static void priceAndMinutes() {
        Check.sentence("PRICE: 4 times crown times felt, 3 times brim times felt, and 10 times band, together.");
        makes("crown 5,felt 1", 20, 6, 35);
        makes("crown 6,felt 1", 24, 6, 36);
        makes("crown 5,felt 2", 40, 12, 55);
        makes("crown 30,brim 20,band 9,felt 5", 990, 50, 140);
        makes("crown 29,brim 20,band 9,felt 5", 970, 50, 139);
        makes("crown 30,brim 19,band 9,felt 5", 975, 49, 140);
        makes("crown 30,brim 20,band 8,felt 5", 980, 50, 140);
        makes("crown 30,brim 20,band 9,felt 4", 810, 44, 120);
    }

    private static void faultOfTheLatest() {
        Check.sentence("The place of the FAULT of the latest order() that read a HAT");
        HatWorks x = Check.works(100);
        Check.due("a fault", Check.addOrder(x, 100, "crown 4", 0, 1), -8);
        Check.due("its place", x.fault(), 6);
        Check.due("asked again", x.fault(), 6);
        Check.due("no ring", x.order(0, 0, 1), -1);
        Check.due("no hat was read, so it stays", x.fault(), 6);
        Check.illegal("weight 0", () -> x.order(0, 0, 0));
        Check.due("it stays behind a throw", x.fault(), 6);
        x.wait(5);
        x.plan();
        Check.due("it stays behind other calls", x.fault(), 6);
        Check.due("another fault", Check.addOrder(x, 100, "crown 5,felt", 0, 1), -9);
        Check.due("that one's place", x.fault(), 12);
        Check.due("a good hat", Check.addOrder(x, 100, "crown 5,felt 1", 0, 1), 0);
        Check.due("none", x.fault(), -1);
        Check.due("no ring", x.order(0, 0, 1), -1);
        Check.due("still none", x.fault(), -1);
    }

    private static void faultOfNone() {
        Check.sentence("NONE without.");
        HatWorks x = new HatWorks();
        Check.due("no order at all", x.fault(), -1);
        Check.due("no ring", x.order(0, 0, 1), -1);
        Check.due("no hat was read", x.fault(), -1);
        Check.pushSome(x, 12, 100);
        Check.feed(x, "crown 4");
        Check.due("no block", x.order(7, 0, 1), -2);
        Check.due("a faulty hat was not read", x.fault(), -1);
        x.block();
        Check.pushSome(x, 12, 100);
        Check.due("the hat was kept", x.order(7, 0, 1), -8);
        Check.due("now it was read", x.fault(), 6);
        Check.due("a fault at 0", Check.addOrder(x, 100, "", 0, 1), -9);
        Check.due("is not none", x.fault(), 0);
    }
}
