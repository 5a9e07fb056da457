import java.math.BigInteger;

/** Promises 1, 2 and 13 to 17, sentence by sentence: a new object, what is set, and what is asked of registers. */
public final class RegisterTest {
    private static final BigInteger MOST = Check.MOST;
    private static final BigInteger LEAST = MOST.negate();
    private static final BigInteger ONE = Check.ONE;
    private static final BigInteger PRIME = Check.twoTo(61).subtract(ONE);

    public static void main(String[] args) {
        Check.sentence("Promise 1: All REGISTERS 0", RegisterTest::newRegisters);
        Check.sentence("Promise 1: an empty LINE", RegisterTest::newLine);
        Check.sentence("Promise 1: A new object (and not another's)", RegisterTest::objectsApart);
        Check.sentence("Promise 2: REGISTER r is v", RegisterTest::setValue);
        Check.sentence("Promise 2: how many BITS it had", RegisterTest::setTellsBitsBefore);
        Check.sentence("Promise 2: IllegalArgumentException (r)", RegisterTest::setNoRegister);
        Check.sentence("Promise 13: -1, 0, 1: a is less than b, the same, greater", RegisterTest::compareAll);
        Check.sentence("Promise 13: the same", RegisterTest::compareTheSame);
        Check.sentence("Promise 13: IllegalArgumentException (a, b)", RegisterTest::compareNoRegister);
        Check.sentence("Promise 14: REGISTER r, if it fits into a long", RegisterTest::smallFits);
        Check.sentence("Promise 14: ArithmeticException: it does not", RegisterTest::smallDoesNotFit);
        Check.sentence("Promise 14: IllegalArgumentException (r)", RegisterTest::smallNoRegister);
        Check.sentence("Promise 15: Its lowest 64 bits", RegisterTest::lowOfZeroAndAbove);
        Check.sentence("Promise 15: (as in bits())", RegisterTest::lowBelowZero);
        Check.sentence("Promise 15: IllegalArgumentException (r)", RegisterTest::lowNoRegister);
        Check.sentence("Promise 16: What is left of it without its sign, divided by 2 ** 61 - 1", RegisterTest::foldedAbove);
        Check.sentence("Promise 16: minus that if it is below 0", RegisterTest::foldedBelow);
        Check.sentence("Promise 16: IllegalArgumentException (r)", RegisterTest::foldedNoRegister);
        Check.sentence("Promise 17: How many BITS REGISTER r has", RegisterTest::sizes);
        Check.sentence("Promise 17: IllegalArgumentException (r)", RegisterTest::sizeNoRegister);
        Check.finish("RegisterTest");
    }

    private static BigInteger big(long v) {
        return Check.big(v);
    }

    private static void newRegisters() {
        Run run = new Run();
        for (int k = 0; k < 16; k++) {
            int r = k;
            run.gives("small(" + r + ")", 0, d -> d.small(r));
            run.gives("size(" + r + ")", 0, d -> d.size(r));
            run.gives("compare(" + r + ", 0)", 0, d -> d.compare(r, 0));
            new Run().gives("show(" + r + ", 10)", 1, d -> d.show(r, 10)).lineIs("0");
        }
    }

    private static void newLine() {
        new Run().refuses("letter(0)", Check.BOUNDS, d -> d.letter(0));
        new Run().lineIs("").gives("line of one letter", 1, d -> d.line('7')).lineIs("7");
        new Run().refusesRead("read(0, 10) of it", Check.ILLEGAL, d -> d.read(0, 10));
    }

    private static void objectsApart() {
        LimbDesk one = new LimbDesk();
        one.set(3, 9);
        one.line('x');
        LimbDesk other = new LimbDesk();
        Check.due("small(3) of the other", other.small(3), 0);
        Check.due("line of the other", other.line('y'), 1);
        other.set(3, 4);
        Check.due("small(3) of the one", one.small(3), 9);
        Check.due("letter(0) of the one", one.letter(0), 'x');
    }

    private static final long[] LONGS = {0, 1, -1, 5, -8, 255, 256, Integer.MAX_VALUE, Integer.MIN_VALUE, 1L << 31, -(1L << 31) - 1,
        1L << 32, (1L << 62) - 1, 1L << 62, -(1L << 62), Long.MAX_VALUE, Long.MAX_VALUE - 1, Long.MIN_VALUE, Long.MIN_VALUE + 1};

    private static void setValue() {
        for (long v : LONGS) {
            Run.with(big(3)).makes("set(1, " + v + ")", 2, 1, big(v), d -> d.set(1, v)).gives("small(1)", v, d -> d.small(1));
            Run.with(LEAST).makes("set(1, " + v + ") over the least", 2048, 1, big(v), d -> d.set(1, v));
        }
    }

    private static void setTellsBitsBefore() {
        for (long had : LONGS) {
            for (long v : LONGS) {
                Run.with(big(had)).gives("set(1, " + v + ") over " + had, Check.bits(big(had)), d -> d.set(1, v));
            }
        }
        new Run().gives("set(0, 77) of a new object", 0, d -> d.set(0, 77));
        Run.with(MOST).gives("set(1, 1) over the most", 2048, d -> d.set(1, 1)).gives("set(1, 0)", 1, d -> d.set(1, 0));
        Run.with(Check.twoTo(1000).negate()).gives("set(1, 1) over -(2 ** 1000)", 1001, d -> d.set(1, 1));
    }

    private static void setNoRegister() {
        for (int no : Check.NO_REGISTERS) {
            Run.with(MOST).refuses("set(" + no + ", 7)", Check.ILLEGAL, d -> d.set(no, 7));
        }
    }

    private static final BigInteger[] RISING = {LEAST, LEAST.add(ONE), LEAST.add(Check.twoTo(1999)), Check.twoTo(1000).negate(),
        Check.twoTo(62).negate(), big(-2), big(-1), big(0), ONE, big(2), Check.twoTo(31).subtract(ONE), Check.twoTo(31),
        Check.twoTo(62).subtract(ONE), Check.twoTo(62), Check.twoTo(63), Check.twoTo(64), Check.twoTo(1000),
        Check.twoTo(1000).add(ONE), MOST.subtract(Check.twoTo(1999)), MOST.subtract(ONE), MOST};

    private static void compareAll() {
        for (int a = 0; a < RISING.length; a++) {
            for (int b = 0; b < RISING.length; b++) {
                String name = "compare of " + RISING[a] + " and " + RISING[b];
                Run.with(RISING[a], RISING[b]).asks(name, Integer.compare(a, b), d -> d.compare(1, 2));
            }
        }
    }

    private static void compareTheSame() {
        for (BigInteger v : RISING) {
            Run.with(v).asks("compare(1, 1) of " + v, 0, d -> d.compare(1, 1));
        }
        // The same number by two ways, with what is left of a greater one behind it.
        Run.with(MOST, big(5)).then(d -> d.shift(1, 1, -2045), d -> d.set(3, 2), d -> d.work(0, 2, 2, 3))
            .asks("compare of 7 and 7", 0, d -> d.compare(1, 2));
        new Run().type("-0").then(d -> d.read(1, 10)).asks("compare of -0 and 0", 0, d -> d.compare(1, 0));
    }

    private static void compareNoRegister() {
        for (int no : Check.NO_REGISTERS) {
            Run.with(MOST).refuses("compare(" + no + ", 1)", Check.ILLEGAL, d -> d.compare(no, 1));
            Run.with(MOST).refuses("compare(1, " + no + ")", Check.ILLEGAL, d -> d.compare(1, no));
            Run.with(MOST).refuses("compare(" + no + ", " + no + ")", Check.ILLEGAL, d -> d.compare(no, no));
        }
    }

    private static void smallFits() {
        for (long v : LONGS) {
            Run.with(big(v)).asks("small of " + v, v, d -> d.small(1));
            // Come from a greater number, not by set.
            Run.with(big(v).shiftLeft(500)).then(d -> d.shift(1, 1, -500)).asks("small of " + v, v, d -> d.small(1));
        }
    }

    private static void smallDoesNotFit() {
        BigInteger[] none = {big(Long.MAX_VALUE).add(ONE), big(Long.MIN_VALUE).subtract(ONE), big(Long.MAX_VALUE).add(big(2)),
            big(Long.MIN_VALUE).subtract(big(2)), Check.twoTo(64).subtract(ONE), ONE.subtract(Check.twoTo(64)), Check.twoTo(64),
            Check.twoTo(64).negate(), Check.twoTo(64).add(ONE), Check.twoTo(63).add(Check.twoTo(62)).negate(), Check.twoTo(128),
            big(Long.MIN_VALUE).subtract(Check.twoTo(100)), Check.twoTo(93), MOST, LEAST};
        for (BigInteger v : none) {
            Run.with(v).refuses("small of " + v, Check.ARITHMETIC, d -> d.small(1));
        }
    }

    private static void smallNoRegister() {
        for (int no : Check.NO_REGISTERS) {
            Run.with(MOST).refuses("small(" + no + ")", Check.ILLEGAL, d -> d.small(no));
        }
    }

    private static final String[] NUMBERS = {"0", "1", "2147483648", "9223372036854775807", "9223372036854775808",
        "9223372036854775809", "18446744073709551615", "18446744073709551616", "18446744073709551617", "27670116110564327424",
        "2305843009213693950", "2305843009213693951", "2305843009213693952", "4611686018427387902", "4611686018427387903",
        "5316911983139663487615228241121378303", "5316911983139663487615228241121378304", "340282366920938463463374607431768211455",
        "123456789012345678901234567890123456789"};

    private static void lowIs(BigInteger v) {
        Run.with(v).asks("low of " + v, v.longValue(), d -> d.low(1));
    }

    private static void lowOfZeroAndAbove() {
        for (String text : NUMBERS) {
            lowIs(Check.big(text));
        }
        lowIs(MOST);
        lowIs(Check.twoTo(2047));
        for (int n = 1; n < 70; n++) {
            lowIs(Check.twoTo(n));
            lowIs(MOST.subtract(Check.twoTo(n)));
        }
    }

    private static void lowBelowZero() {
        for (String text : NUMBERS) {
            lowIs(Check.big(text).negate());
        }
        Run.with(LEAST).asks("low of the least", 1, d -> d.low(1));
        Run.with(Check.twoTo(2047).negate()).asks("low of -(2 ** 2047)", 0, d -> d.low(1));
        for (int n = 1; n < 70; n++) {
            lowIs(Check.twoTo(n).negate());
            lowIs(LEAST.add(Check.twoTo(n)));
            // 64 bits alone: and with 2 ** 64 - 1, and what is above its half is below 0 as a long.
            BigInteger v = LEAST.add(Check.twoTo(n));
            Run.with(v, Check.twoTo(64).subtract(ONE)).then(d -> d.bits(0, 3, 1, 2)).asks("low of the bits", v.longValue(), d -> d.low(3));
        }
    }

    private static void lowNoRegister() {
        for (int no : Check.NO_REGISTERS) {
            Run.with(MOST).refuses("low(" + no + ")", Check.ILLEGAL, d -> d.low(no));
        }
    }

    private static void foldedIs(BigInteger v, long want) {
        Run.with(v).asks("folded of " + v, want, d -> d.folded(1));
    }

    private static BigInteger[] toFold() {
        BigInteger[] all = new BigInteger[NUMBERS.length + 2048 / 16 + 4 * 33];
        int at = 0;
        for (String text : NUMBERS) {
            all[at++] = Check.big(text);
        }
        for (int n = 0; n < 2048; n += 16) {
            all[at++] = MOST.shiftRight(n);
        }
        for (int n = 1; n <= 33; n++) {
            all[at++] = PRIME.pow(n);
            all[at++] = PRIME.pow(n).subtract(ONE);
            all[at++] = PRIME.pow(n).add(ONE);
            all[at++] = Check.twoTo(61 * n);
        }
        return all;
    }

    private static void foldedAbove() {
        for (BigInteger v : toFold()) {
            foldedIs(v, v.mod(PRIME).longValue());
        }
        foldedIs(PRIME, 0);
        foldedIs(PRIME.subtract(ONE), (1L << 61) - 2);
        foldedIs(PRIME.add(ONE), 1);
    }

    private static void foldedBelow() {
        for (BigInteger v : toFold()) {
            foldedIs(v.negate(), -v.mod(PRIME).longValue());
        }
        foldedIs(PRIME.negate(), 0);
        foldedIs(ONE.subtract(PRIME), 2 - (1L << 61));
        foldedIs(big(-1), -1);
        foldedIs(big(Long.MIN_VALUE), -4);
    }

    private static void foldedNoRegister() {
        for (int no : Check.NO_REGISTERS) {
            Run.with(MOST).refuses("folded(" + no + ")", Check.ILLEGAL, d -> d.folded(no));
        }
    }

    private static void sizes() {
        for (BigInteger v : RISING) {
            Run.with(v).asks("size of " + v, Check.bits(v), d -> d.size(1));
        }
        for (long v : LONGS) {
            Run.with(big(v)).asks("size of " + v, Check.bits(big(v)), d -> d.size(1));
        }
        Run.with(MOST).then(d -> d.set(1, 0)).asks("size of 0 where the most was", 0, d -> d.size(1));
    }

    private static void sizeNoRegister() {
        for (int no : Check.NO_REGISTERS) {
            Run.with(MOST).refuses("size(" + no + ")", Check.ILLEGAL, d -> d.size(no));
        }
    }
}
