import java.math.BigInteger;
import java.util.function.IntToLongFunction;

/** What the tests share: counted complaints, and whole numbers carried in and out of a desk. */
final class Check {
    static final BigInteger ONE = BigInteger.ONE;
    static final BigInteger MOST = ONE.shiftLeft(2048).subtract(ONE);

    interface Call {
        long run();
    }

    private static int wrong = 0;

    private Check() {
    }

    static void due(String call, long got, long want) {
        if (got != want) {
            complain(call + " answered " + got + ", due is " + want);
        }
    }

    static void due(String call, String got, String want) {
        if (!got.equals(want)) {
            complain(call + " gave " + got + ", due is " + want);
        }
    }

    static void complain(String text) {
        wrong++;
        System.out.println(text);
    }

    /** The call must throw just this and leave all registers and the line as they were. */
    static void refuses(LimbDesk desk, String call, Class<? extends RuntimeException> want, Call run) {
        String before = state(desk);
        throwsOnly(call, want, run);
        due("the state after " + call, state(desk), before);
    }

    static void throwsOnly(String call, Class<? extends RuntimeException> want, Call run) {
        String got = "nothing";
        try {
            run.run();
        } catch (RuntimeException e) {
            got = e.getClass().getSimpleName();
        }
        due("what " + call + " throws", got, want.getSimpleName());
    }

    static void refusesRegisters(LimbDesk desk, String call, IntToLongFunction run) {
        for (int r : new int[] {-1, 16, 17, Integer.MIN_VALUE, Integer.MAX_VALUE}) {
            refuses(desk, call + " with register " + r, IllegalArgumentException.class, () -> run.applyAsLong(r));
        }
    }

    static String state(LimbDesk desk) {
        StringBuilder text = new StringBuilder();
        for (int r = 0; r < 16; r++) {
            text.append(desk.folded(r)).append('/').append(desk.size(r)).append(' ');
        }
        return text.append('[').append(lineOf(desk)).append(']').toString();
    }

    static String lineOf(LimbDesk desk) {
        StringBuilder text = new StringBuilder();
        for (int k = 0; k < 2200; k++) {
            try {
                text.append((char) desk.letter(k));
            } catch (IndexOutOfBoundsException e) {
                return text.toString();
            }
        }
        return text.append("..").toString();
    }

    /** The octets of up to eight letters, for line(). */
    static long octets(String text) {
        long w = 0;
        for (int k = Math.min(8, text.length()) - 1; k >= 0; k--) {
            w = (w << 8) | text.charAt(k);
        }
        return w;
    }

    static void type(LimbDesk desk, String text) {
        for (int k = 0; k < text.length(); k += 8) {
            desk.line(octets(text.substring(k, Math.min(k + 8, text.length()))));
        }
    }

    /** Only for a desk whose line is empty. */
    static void put(LimbDesk desk, int r, BigInteger v) {
        type(desk, v.toString(36));
        desk.read(r, 36);
    }

    /** Overwrites the line. */
    static BigInteger get(LimbDesk desk, int r) {
        desk.show(r, 36);
        return new BigInteger(lineOf(desk), 36);
    }

    /** Overwrites the line. */
    static void holds(LimbDesk desk, String call, int r, BigInteger want) {
        due("register " + r + " after " + call, get(desk, r).toString(), want.toString());
    }

    static BigInteger big(String text) {
        return new BigInteger(text);
    }

    static BigInteger twoTo(int n) {
        return ONE.shiftLeft(n);
    }

    static void finish(String name) {
        System.out.println(name + ": " + (wrong == 0 ? "all as due" : wrong + " not as due"));
        if (wrong != 0) {
            System.exit(1);
        }
    }
}
