import java.math.BigInteger;

/** What the tests share: sentences of the document with a test each, and complaints that are counted. */
final class Check {
    static final BigInteger ONE = BigInteger.ONE;
    /** The greatest number of 2048 BITS. */
    static final BigInteger MOST = twoTo(2048).subtract(ONE);
    static final int[] NO_REGISTERS = {-1, 16, 17, -16, 32, 256, Integer.MIN_VALUE, Integer.MAX_VALUE};

    static final Class<IllegalArgumentException> ILLEGAL = IllegalArgumentException.class;
    static final Class<ArithmeticException> ARITHMETIC = ArithmeticException.class;
    static final Class<IndexOutOfBoundsException> BOUNDS = IndexOutOfBoundsException.class;

    private static String sentence = "";
    private static int sentences;
    private static int checks;
    private static int wrong;

    private Check() {
    }

    /** The words are told with each complaint, so that it says what is broken. */
    static void sentence(String words, Runnable test) {
        sentences++;
        sentence = words;
        int before = checks;
        try {
            test.run();
        } catch (RuntimeException e) {
            complain("its test ended with " + e);
        }
        if (checks == before) {
            complain("its test looked at nothing");
        }
        sentence = "";
    }

    static void due(String what, long got, long want) {
        checks++;
        if (got != want) {
            complain(what + " is " + got + ", due is " + want);
        }
    }

    static void due(String what, String got, String want) {
        checks++;
        if (!got.equals(want)) {
            complain(what + " is " + got + ", due is " + want);
        }
    }

    static void complain(String text) {
        wrong++;
        System.out.println(sentence.isEmpty() ? text : "\"" + sentence + "\" is broken: " + text);
    }

    static void finish(String name) {
        String count = sentences == 0 ? "" : sentences + " sentences, ";
        System.out.println(name + ": " + count + (wrong == 0 ? "all as due" : wrong + " not as due"));
        if (wrong != 0) {
            System.exit(1);
        }
    }

    static BigInteger big(long v) {
        return BigInteger.valueOf(v);
    }

    static BigInteger big(String text) {
        return new BigInteger(text);
    }

    static BigInteger twoTo(int n) {
        return ONE.shiftLeft(n);
    }

    static int bits(BigInteger v) {
        return v.abs().bitLength();
    }

    static boolean fits(BigInteger v) {
        return bits(v) <= 2048;
    }

    /** The octets of up to eight letters, for line(). */
    static long octets(String text) {
        long w = 0;
        for (int k = Math.min(8, text.length()) - 1; k >= 0; k--) {
            w = (w << 8) | text.charAt(k);
        }
        return w;
    }
}
