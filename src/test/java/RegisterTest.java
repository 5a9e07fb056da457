import java.math.BigInteger;

/** Promises 1, 2 and 13 to 17: a new object, what is set, and what is asked of one register. */
public final class RegisterTest {
    private static final BigInteger PRIME = Check.twoTo(61).subtract(Check.ONE);

    public static void main(String[] args) {
        promise1NewObject();
        promise2Set();
        promise13Compare();
        promise14Small();
        promise15Low();
        promise16Folded();
        promise17Size();
        Check.finish("RegisterTest");
    }

    private static void promise1NewObject() {
        LimbDesk desk = new LimbDesk();
        for (int r = 0; r < 16; r++) {
            Check.due("small(" + r + ") of a new object", desk.small(r), 0);
            Check.due("size(" + r + ") of a new object", desk.size(r), 0);
        }
        Check.throwsOnly("letter(0) of a new object", IndexOutOfBoundsException.class, () -> desk.letter(0));
        Check.due("line() of a new object", desk.line('7'), 1);
        desk.set(3, 9);
        LimbDesk other = new LimbDesk();
        Check.due("register 3 of another object", other.small(3), 0);
        Check.due("the line of another object", Check.lineOf(other), "");
    }

    private static void promise2Set() {
        LimbDesk desk = new LimbDesk();
        long[] values = {1, -1, 0, 5, -8, Integer.MIN_VALUE, 1L << 31, (1L << 31) - 1, 1L << 62, -(1L << 62),
            Long.MAX_VALUE, Long.MIN_VALUE, Long.MIN_VALUE + 1, 0, 3};
        long had = 0;
        for (long v : values) {
            Check.due("set(4, " + v + ")", desk.set(4, v), BigInteger.valueOf(had).abs().bitLength());
            Check.due("small(4) after set(4, " + v + ")", desk.small(4), v);
            had = v;
        }
        Check.due("set(15, 1)", desk.set(15, 1), 0);
        Check.due("set(0, 1)", desk.set(0, 1), 0);
        Check.put(desk, 0, Check.MOST.negate());
        Check.due("set(0, 0) of 2048 bits", desk.set(0, 0), 2048);
        Check.due("set(0, 0) again", desk.set(0, 0), 0);
        Check.refusesRegisters(desk, "set", r -> desk.set(r, 7));
    }

    private static void promise13Compare() {
        LimbDesk desk = new LimbDesk();
        BigInteger[] rising = {Check.MOST.negate(), Check.MOST.negate().add(Check.ONE), Check.twoTo(1000).negate(),
            Check.twoTo(62).negate(), Check.big("-2"), Check.big("-1"), Check.big("0"), Check.big("1"),
            Check.twoTo(31).subtract(Check.ONE), Check.twoTo(31), Check.twoTo(62), Check.twoTo(1000),
            Check.MOST.subtract(Check.twoTo(1999)), Check.MOST.subtract(Check.ONE), Check.MOST};
        for (int r = 0; r < rising.length; r++) {
            Check.put(desk, r, rising[r]);
        }
        for (int a = 0; a < rising.length; a++) {
            for (int b = 0; b < rising.length; b++) {
                Check.due("compare(" + a + ", " + b + ")", desk.compare(a, b), Integer.compare(a, b));
            }
        }
        Check.put(desk, 15, Check.MOST);
        Check.due("compare of the same in two registers", desk.compare(14, 15), 0);
        Check.refusesRegisters(desk, "compare", r -> desk.compare(r, 0));
        Check.refusesRegisters(desk, "compare", r -> desk.compare(0, r));
    }

    private static void promise14Small() {
        LimbDesk desk = new LimbDesk();
        BigInteger least = BigInteger.valueOf(Long.MIN_VALUE);
        BigInteger most = BigInteger.valueOf(Long.MAX_VALUE);
        for (String text : new String[] {"0", "1", "-1", "2147483647", "2147483648", "-4294967296", "4611686018427387904"}) {
            Check.put(desk, 2, Check.big(text));
            Check.due("small of " + text, desk.small(2), Long.parseLong(text));
        }
        Check.put(desk, 2, least);
        Check.due("small of the least", desk.small(2), Long.MIN_VALUE);
        Check.put(desk, 2, most);
        Check.due("small of the most", desk.small(2), Long.MAX_VALUE);
        BigInteger[] none = {least.subtract(Check.ONE), most.add(Check.ONE), Check.twoTo(64).negate(), Check.twoTo(64),
            Check.twoTo(64).subtract(Check.ONE), Check.ONE.subtract(Check.twoTo(64)), Check.MOST, Check.MOST.negate(),
            Check.twoTo(128), least.subtract(Check.twoTo(100))};
        for (BigInteger v : none) {
            Check.put(desk, 2, v);
            Check.refuses(desk, "small of " + v, ArithmeticException.class, () -> desk.small(2));
        }
        Check.refusesRegisters(desk, "small", r -> desk.small(r));
    }

    private static final String[] NUMBERS = {"0", "1", "-1", "9223372036854775807", "9223372036854775808",
        "-9223372036854775808", "-9223372036854775809", "18446744073709551615", "18446744073709551616",
        "-18446744073709551615", "-18446744073709551616", "-18446744073709551617", "2305843009213693950",
        "2305843009213693951", "2305843009213693952", "-2305843009213693951", "-2305843009213693950",
        "5316911983139663487615228241121378303", "5316911983139663487615228241121378304",
        "123456789012345678901234567890123456789", "-123456789012345678901234567890123456789"};

    private static void promise15Low() {
        LimbDesk desk = new LimbDesk();
        for (String text : NUMBERS) {
            Check.put(desk, 9, Check.big(text));
            Check.due("low of " + text, desk.low(9), Check.big(text).longValue());
        }
        Check.put(desk, 9, Check.MOST);
        Check.due("low of the most", desk.low(9), -1);
        Check.put(desk, 9, Check.MOST.negate());
        Check.due("low of the least", desk.low(9), 1);
        Check.put(desk, 9, Check.twoTo(2047).negate());
        Check.due("low of -(2 ** 2047)", desk.low(9), 0);
        Check.refusesRegisters(desk, "low", r -> desk.low(r));
    }

    private static void promise16Folded() {
        LimbDesk desk = new LimbDesk();
        for (String text : NUMBERS) {
            foldedIs(desk, Check.big(text));
        }
        foldedIs(desk, Check.MOST);
        foldedIs(desk, Check.MOST.negate());
        foldedIs(desk, PRIME.pow(33));
        foldedIs(desk, PRIME.pow(33).subtract(Check.ONE));
        foldedIs(desk, PRIME.pow(33).subtract(Check.ONE).negate());
        for (int n = 0; n < 2048; n += 61) {
            foldedIs(new LimbDesk(), Check.twoTo(n).negate());
        }
        Check.refusesRegisters(desk, "folded", r -> desk.folded(r));
    }

    private static void foldedIs(LimbDesk desk, BigInteger v) {
        Check.put(desk, 1, v);
        // BigInteger.remainder cuts towards 0, as folded does.
        Check.due("folded of " + v, desk.folded(1), v.remainder(PRIME).longValue());
    }

    private static void promise17Size() {
        for (int n = 0; n < 2048; n++) {
            LimbDesk desk = new LimbDesk();
            desk.set(0, n % 2 == 0 ? 1 : -1);
            desk.shift(1, 0, n);
            Check.due("size of +-(2 ** " + n + ")", desk.size(1), n + 1);
            desk.set(2, n % 2 == 0 ? -1 : 1);
            desk.work(0, 3, 1, 2);
            Check.due("size of +-(2 ** " + n + " - 1)", desk.size(3), n);
        }
        LimbDesk desk = new LimbDesk();
        Check.due("size of 0", desk.size(15), 0);
        Check.put(desk, 15, Check.MOST.negate());
        Check.due("size of the least", desk.size(15), 2048);
        Check.refusesRegisters(desk, "size", r -> desk.size(r));
    }
}
