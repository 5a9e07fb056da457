import java.math.BigInteger;

/** Promises 7 to 12, sentence by sentence: what makes numbers of numbers. */
public final class WorkTest {
    private static final int[] NO_KINDS = {-1, 3, 4, -2, 256, Integer.MIN_VALUE, Integer.MAX_VALUE};
    private static final BigInteger ZERO = BigInteger.ZERO;
    private static final BigInteger ONE = Check.ONE;
    private static final BigInteger MOST = Check.MOST;
    private static final BigInteger LEAST = MOST.negate();
    private static final BigInteger[] NUMBERS = numbers();

    public static void main(String[] args) {
        promise7();
        promise8();
        promise9();
        promise10();
        promise11();
        promise12();
        Check.finish("WorkTest");
    }

    private static void promise7() {
        Check.sentence("Promise 7: a + b (what 0)", () -> forPairs(WorkTest::adds));
        Check.sentence("Promise 7: a - b (1)", () -> forPairs(WorkTest::subtracts));
        Check.sentence("Promise 7: a * b (2)", () -> forPairs(WorkTest::multiplies));
        Check.sentence("Promise 7: REGISTER to (also if it is a or b)", WorkTest::workOverSources);
        Check.sentence("Promise 7: its sign (-1, 0, 1)", WorkTest::workTellsSign);
        Check.sentence("Promise 7: IllegalArgumentException: REGISTERS", WorkTest::workNoRegisters);
        Check.sentence("Promise 7: IllegalArgumentException: another what", WorkTest::workNoKind);
    }

    private static void promise8() {
        Check.sentence("Promise 8: cut towards 0", () -> forPairs(WorkTest::cuts));
        Check.sentence("Promise 8: or (down) rounded down", () -> forPairs(WorkTest::roundsDown));
        Check.sentence("Promise 8: REGISTER to is a / b, rest what is left", WorkTest::hardDivisions);
        Check.sentence("Promise 8: (the rest has a's sign)", WorkTest::restHasSignOfA);
        Check.sentence("Promise 8: (it has b's)", WorkTest::restHasSignOfB);
        Check.sentence("Promise 8: (both by a, b as they were)", WorkTest::divideOverSources);
        Check.sentence("Promise 8: The sign of the rest", WorkTest::divideTellsSignOfRest);
        Check.sentence("Promise 8: IllegalArgumentException: REGISTERS", WorkTest::divideNoRegisters);
        Check.sentence("Promise 8: IllegalArgumentException: to is rest", WorkTest::divideToIsRest);
        Check.sentence("Promise 8: ArithmeticException: b is 0", WorkTest::divideByZero);
    }

    private static void promise9() {
        Check.sentence("Promise 9: REGISTER to is a times 2 to the power of by", WorkTest::shiftsUp);
        Check.sentence("Promise 9: rounded down", WorkTest::shiftsDown);
        Check.sentence("Promise 9: REGISTER to (also if it is a)", WorkTest::shiftOverSource);
        Check.sentence("Promise 9: how many BITS", WorkTest::shiftTellsBits);
        Check.sentence("Promise 9: IllegalArgumentException: REGISTERS", WorkTest::shiftNoRegisters);
        Check.sentence("Promise 9: IllegalArgumentException: by not -4000..4000", WorkTest::shiftTooFar);
    }

    private static void promise10() {
        Check.sentence("Promise 10: a and b (what 0)", () -> forPairs((a, b) -> joins(0, a, b)));
        Check.sentence("Promise 10: or (1)", () -> forPairs((a, b) -> joins(1, a, b)));
        Check.sentence("Promise 10: exclusive or (2)", () -> forPairs((a, b) -> joins(2, a, b)));
        Check.sentence("Promise 10: endlessly many bits in front: 0, or 1 for those below 0", WorkTest::endlessBits);
        Check.sentence("Promise 10: (these are what is left of 2 to a great power)", WorkTest::leftOfAGreatPower);
        Check.sentence("Promise 10: REGISTER to (also if it is a or b)", WorkTest::bitsOverSources);
        Check.sentence("Promise 10: Its sign", WorkTest::bitsTellSign);
        Check.sentence("Promise 10: IllegalArgumentException: REGISTERS", WorkTest::bitsNoRegisters);
        Check.sentence("Promise 10: IllegalArgumentException: another what", WorkTest::bitsNoKind);
    }

    private static void promise11() {
        Check.sentence("Promise 11: REGISTER to is a to the power of n", WorkTest::powersOf);
        Check.sentence("Promise 11: (0 to the power of 0 is 1)", WorkTest::zeroToThePowerOfZero);
        Check.sentence("Promise 11: to the power of n (as great as an int can be)", WorkTest::greatPowers);
        Check.sentence("Promise 11: REGISTER to (also if it is a)", WorkTest::powerOverSource);
        Check.sentence("Promise 11: how many BITS", WorkTest::powerTellsBits);
        Check.sentence("Promise 11: IllegalArgumentException: REGISTERS", WorkTest::powerNoRegisters);
        Check.sentence("Promise 11: IllegalArgumentException: n below 0", WorkTest::powerBelowZero);
    }

    private static void promise12() {
        Check.sentence("Promise 12: what is left of a to the power of b, divided by m", WorkTest::residues);
        Check.sentence("Promise 12: rounded down (so it has m's sign)", WorkTest::residueHasSignOfM);
        Check.sentence("Promise 12: to the power of b (0, too)", WorkTest::residueOfPowerZero);
        Check.sentence("Promise 12: divided by m (1 and -1, too)", WorkTest::residueByOne);
        Check.sentence("Promise 12: REGISTER to (also if it is a, b or m)", WorkTest::residueOverSources);
        Check.sentence("Promise 12: its sign", WorkTest::residueTellsSign);
        Check.sentence("Promise 12: IllegalArgumentException: REGISTERS", WorkTest::residueNoRegisters);
        Check.sentence("Promise 12: IllegalArgumentException: b is below 0", WorkTest::residueBelowZero);
        Check.sentence("Promise 12: ArithmeticException, behind that: m is 0", WorkTest::residueByZero);
    }

    private interface Pair {
        void with(BigInteger a, BigInteger b);
    }

    private interface To {
        long on(LimbDesk desk, int to);
    }

    private static BigInteger big(long v) {
        return Check.big(v);
    }

    private static BigInteger[] numbers() {
        String[] small = {"0", "1", "-1", "2", "-2", "7", "-7", "10", "2147483647", "-2147483648", "2147483649",
            "9223372036854775807", "-9223372036854775808", "170141183460469231731687303715884105727"};
        BigInteger[] all = new BigInteger[small.length * 2 + 10];
        for (int i = 0; i < small.length; i++) {
            all[i] = Check.big(small[i]);
            all[small.length + i] = MOST.subtract(all[i].abs().shiftLeft(i * 60)).multiply(big(i % 2 == 0 ? 1 : -1));
        }
        int at = small.length * 2;
        for (int n : new int[] {62, 93, 1023, 1024, 2047}) {
            all[at++] = Check.twoTo(n);
            all[at++] = Check.twoTo(n).negate().add(big(3));
        }
        return all;
    }

    private static void forPairs(Pair test) {
        for (BigInteger a : NUMBERS) {
            for (BigInteger b : NUMBERS) {
                test.with(a, b);
            }
        }
    }

    /** A call on registers 1, 2, .. that makes v of register 4, or is refused if v has too many bits. */
    private static void makes(String name, BigInteger v, long want, To call, BigInteger... sources) {
        makesAt(4, name, v, want, call, sources);
    }

    private static void makesAt(int to, String name, BigInteger v, long want, To call, BigInteger... sources) {
        Run run = Run.with(sources);
        if (Check.fits(v)) {
            run.makes(name + " to " + to, want, to, v, d -> call.on(d, to));
        } else {
            run.refuses(name + " to " + to, Check.ARITHMETIC, d -> call.on(d, to));
        }
    }

    private static void adds(BigInteger a, BigInteger b) {
        BigInteger v = a.add(b);
        makes(a + " + " + b, v, v.signum(), (d, to) -> d.work(0, to, 1, 2), a, b);
    }

    private static void subtracts(BigInteger a, BigInteger b) {
        BigInteger v = a.subtract(b);
        makes(a + " - " + b, v, v.signum(), (d, to) -> d.work(1, to, 1, 2), a, b);
    }

    private static void multiplies(BigInteger a, BigInteger b) {
        BigInteger v = a.multiply(b);
        makes(a + " * " + b, v, v.signum(), (d, to) -> d.work(2, to, 1, 2), a, b);
    }

    private static final BigInteger[] SOME = {big(-14), big(3), ZERO, Check.twoTo(1000), Check.twoTo(1001).negate(), MOST, LEAST};

    private static void workOverSources() {
        for (BigInteger a : SOME) {
            for (BigInteger b : SOME) {
                for (int to = 1; to <= 2; to++) {
                    makesAt(to, a + " + " + b, a.add(b), a.add(b).signum(), (d, r) -> d.work(0, r, 1, 2), a, b);
                    makesAt(to, a + " - " + b, a.subtract(b), a.subtract(b).signum(), (d, r) -> d.work(1, r, 1, 2), a, b);
                    makesAt(to, a + " * " + b, a.multiply(b), a.signum() * b.signum(), (d, r) -> d.work(2, r, 1, 2), a, b);
                }
            }
            for (int to : new int[] {1, 4}) {
                makesAt(to, a + " + itself", a.add(a), a.signum(), (d, r) -> d.work(0, r, 1, 1), a);
                makesAt(to, a + " - itself", ZERO, 0, (d, r) -> d.work(1, r, 1, 1), a);
                makesAt(to, a + " * itself", a.multiply(a), a.signum() * a.signum(), (d, r) -> d.work(2, r, 1, 1), a);
            }
        }
    }

    private static void workTellsSign() {
        Run run = Run.with(big(5), big(-5), ZERO, big(7), LEAST, MOST);
        int[][] due = {{0, 1, 4, 1}, {0, 1, 2, 0}, {0, 2, 2, -1}, {0, 3, 3, 0}, {0, 2, 4, 1}, {0, 5, 6, 0}, {0, 5, 4, -1},
            {1, 1, 4, -1}, {1, 4, 1, 1}, {1, 1, 1, 0}, {1, 2, 2, 0}, {1, 3, 1, -1}, {1, 3, 2, 1}, {1, 6, 6, 0}, {1, 5, 2, -1},
            {2, 1, 4, 1}, {2, 1, 2, -1}, {2, 2, 1, -1}, {2, 2, 2, 1}, {2, 1, 3, 0}, {2, 3, 2, 0}, {2, 3, 5, 0}};
        for (int[] row : due) {
            run.gives("work(" + row[0] + ", 9, " + row[1] + ", " + row[2] + ")", row[3], d -> d.work(row[0], 9, row[1], row[2]));
        }
    }

    private static void workNoRegisters() {
        for (int no : Check.NO_REGISTERS) {
            Run run = Run.with(big(6), big(7));
            for (int what = 0; what < 3; what++) {
                int kind = what;
                run.refuses("work(" + what + ") to " + no, Check.ILLEGAL, d -> d.work(kind, no, 1, 2));
                run.refuses("work(" + what + ") a " + no, Check.ILLEGAL, d -> d.work(kind, 4, no, 2));
                run.refuses("work(" + what + ") b " + no, Check.ILLEGAL, d -> d.work(kind, 4, 1, no));
            }
        }
    }

    private static void workNoKind() {
        for (int what : NO_KINDS) {
            Run.with(big(6), big(7)).refuses("work(" + what + ", 4, 1, 2)", Check.ILLEGAL, d -> d.work(what, 4, 1, 2));
            Run.with(big(6), big(7)).refuses("work(" + what + ", 16, 1, 2)", Check.ILLEGAL, d -> d.work(what, 16, 1, 2));
        }
    }

    private static BigInteger[] cut(BigInteger a, BigInteger b) {
        return a.divideAndRemainder(b);
    }

    private static BigInteger[] down(BigInteger a, BigInteger b) {
        BigInteger[] both = cut(a, b);
        if (both[1].signum() * b.signum() < 0) {
            both[0] = both[0].subtract(ONE);
            both[1] = both[1].add(b);
        }
        return both;
    }

    private static void cuts(BigInteger a, BigInteger b) {
        if (b.signum() != 0) {
            divides(false, a, b, cut(a, b));
        }
    }

    private static void roundsDown(BigInteger a, BigInteger b) {
        if (b.signum() != 0) {
            divides(true, a, b, down(a, b));
        }
    }

    private static void divides(boolean down, BigInteger a, BigInteger b, BigInteger[] want) {
        String name = "divide(" + down + ") of " + a + " by " + b;
        Run.with(a, b).gives(name, want[1].signum(), d -> d.divide(down, 4, 5, 1, 2))
            .holds(name, 4, want[0]).holds(name, 5, want[1]).holds(name, 1, a).holds(name, 2, b).lineIs("- a line");
    }

    /** Divisors and dividends whose limbs are 0 or full make wrong guesses of a digit, for any size of limb. */
    private static void hardDivisions() {
        for (int width : new int[] {15, 16, 28, 30, 31, 32, 62, 64}) {
            BigInteger full = Check.twoTo(width).subtract(ONE);
            BigInteger half = Check.twoTo(width - 1);
            BigInteger[] tops = {full, half, half.add(ONE), half.subtract(ONE), full.subtract(ONE), ONE};
            for (BigInteger top : tops) {
                for (BigInteger low : tops) {
                    BigInteger divisor = top.shiftLeft(2 * width).add(low);
                    bothWays(divisor.multiply(full).add(divisor).subtract(ONE), divisor);
                    bothWays(divisor.shiftLeft(width).subtract(ONE), divisor);
                    bothWays(top.shiftLeft(3 * width).subtract(ONE), divisor.negate());
                    bothWays(half.shiftLeft(3 * width).add(low), divisor);
                }
            }
        }
    }

    private static void bothWays(BigInteger a, BigInteger b) {
        cuts(a, b);
        roundsDown(a, b);
    }

    private static void quotientAndRest(boolean down, long a, long b, long quotient, long rest) {
        divides(down, big(a), big(b), new BigInteger[] {big(quotient), big(rest)});
    }

    private static void restHasSignOfA() {
        quotientAndRest(false, 17, 5, 3, 2);
        quotientAndRest(false, -17, 5, -3, -2);
        quotientAndRest(false, 17, -5, -3, 2);
        quotientAndRest(false, -17, -5, 3, -2);
        quotientAndRest(false, 3, 5, 0, 3);
        quotientAndRest(false, -3, 5, 0, -3);
        quotientAndRest(false, 3, -5, 0, 3);
        quotientAndRest(false, -3, -5, 0, -3);
        quotientAndRest(false, Long.MIN_VALUE, 10, -922337203685477580L, -8);
        for (int a = -12; a <= 12; a++) {
            quotientAndRest(false, a, 4, a / 4, a % 4);
            quotientAndRest(false, a, -4, -(a / 4), a % 4);
        }
    }

    private static void restHasSignOfB() {
        quotientAndRest(true, 17, 5, 3, 2);
        quotientAndRest(true, -17, 5, -4, 3);
        quotientAndRest(true, 17, -5, -4, -3);
        quotientAndRest(true, -17, -5, 3, -2);
        quotientAndRest(true, 3, 5, 0, 3);
        quotientAndRest(true, -3, 5, -1, 2);
        quotientAndRest(true, 3, -5, -1, -2);
        quotientAndRest(true, -3, -5, 0, -3);
        quotientAndRest(true, Long.MIN_VALUE, 10, -922337203685477581L, 2);
        for (int a = -12; a <= 12; a++) {
            quotientAndRest(true, a, 4, Math.floorDiv(a, 4), Math.floorMod(a, 4));
            quotientAndRest(true, a, -4, Math.floorDiv(a, -4), Math.floorMod(a, -4));
        }
        divides(true, LEAST, big(2), new BigInteger[] {Check.twoTo(2047).negate(), ONE});
        divides(true, ONE, LEAST, new BigInteger[] {big(-1), LEAST.add(ONE)});
    }

    /** Every choice of to, rest, a and b out of three registers. */
    private static void divideOverSources() {
        BigInteger[][] values = {{big(17), big(-5), big(3)}, {LEAST, Check.twoTo(1000), big(-7)}, {big(-1), MOST, Check.twoTo(90)}};
        for (BigInteger[] three : values) {
            for (int choice = 0; choice < 3 * 3 * 3 * 3; choice++) {
                int to = 1 + choice % 3;
                int rest = 1 + choice / 3 % 3;
                int a = 1 + choice / 9 % 3;
                int b = 1 + choice / 27;
                if (to != rest) {
                    divideOver(false, to, rest, a, b, three, cut(three[a - 1], three[b - 1]));
                    divideOver(true, to, rest, a, b, three, down(three[a - 1], three[b - 1]));
                }
            }
        }
    }

    private static void divideOver(boolean down, int to, int rest, int a, int b, BigInteger[] three, BigInteger[] want) {
        String name = "divide(" + down + ", " + to + ", " + rest + ", " + a + ", " + b + ")";
        Run run = Run.with(three).gives(name, want[1].signum(), d -> d.divide(down, to, rest, a, b));
        for (int r = 1; r <= 3; r++) {
            run.holds(name, r, r == to ? want[0] : r == rest ? want[1] : three[r - 1]);
        }
    }

    private static void divideTellsSignOfRest() {
        Run run = Run.with(big(12), big(-12), big(5), big(-5), big(4), big(-4), ZERO);
        int[][] due = {{1, 3, 1, 1}, {1, 4, 1, -1}, {2, 3, -1, 1}, {2, 4, -1, -1}, {1, 5, 0, 0}, {1, 6, 0, 0}, {2, 5, 0, 0},
            {2, 6, 0, 0}, {7, 1, 0, 0}, {7, 2, 0, 0}, {1, 1, 0, 0}, {2, 1, 0, 0}, {5, 1, 1, 1}, {5, 2, 1, -1}, {6, 1, -1, 1},
            {6, 2, -1, -1}};
        for (int[] row : due) {
            String name = "of " + row[0] + " by " + row[1];
            run.gives("divide " + name, row[2], d -> d.divide(false, 14, 15, row[0], row[1]));
            run.gives("divide down " + name, row[3], d -> d.divide(true, 14, 15, row[0], row[1]));
        }
    }

    private static void divideNoRegisters() {
        for (int no : Check.NO_REGISTERS) {
            for (boolean down : new boolean[] {false, true}) {
                Run run = Run.with(big(6), big(7));
                run.refuses("divide to " + no, Check.ILLEGAL, d -> d.divide(down, no, 5, 1, 2));
                run.refuses("divide rest " + no, Check.ILLEGAL, d -> d.divide(down, 4, no, 1, 2));
                run.refuses("divide a " + no, Check.ILLEGAL, d -> d.divide(down, 4, 5, no, 2));
                run.refuses("divide b " + no, Check.ILLEGAL, d -> d.divide(down, 4, 5, 1, no));
                run.refuses("divide to and rest " + no, Check.ILLEGAL, d -> d.divide(down, no, no, 1, 2));
            }
        }
    }

    private static void divideToIsRest() {
        for (int r = 0; r < 16; r++) {
            int to = r;
            Run run = Run.with(big(6), big(7));
            run.refuses("divide, to and rest " + r, Check.ILLEGAL, d -> d.divide(false, to, to, 1, 2));
            run.refuses("divide down, to and rest " + r, Check.ILLEGAL, d -> d.divide(true, to, to, 1, 2));
        }
    }

    private static void divideByZero() {
        for (BigInteger a : new BigInteger[] {big(6), big(-6), ZERO, MOST, LEAST}) {
            Run run = Run.with(a, ZERO);
            run.refuses("divide by 0 of " + a, Check.ARITHMETIC, d -> d.divide(false, 4, 5, 1, 2));
            run.refuses("divide down by 0 of " + a, Check.ARITHMETIC, d -> d.divide(true, 4, 5, 1, 2));
            run.refuses("divide by 0 over it, of " + a, Check.ARITHMETIC, d -> d.divide(false, 2, 1, 1, 2));
            run.refuses("divide of 0 by itself", Check.ARITHMETIC, d -> d.divide(true, 1, 2, 2, 2));
        }
        new Run().refuses("divide of a new object", Check.ARITHMETIC, d -> d.divide(false, 0, 1, 0, 0));
        new Run().type("-0").then(d -> d.read(2, 10)).refuses("divide by -0", Check.ARITHMETIC, d -> d.divide(true, 4, 5, 1, 2));
    }

    private static void shifts(BigInteger a, int by) {
        BigInteger v = a.shiftLeft(by);
        makes(a + " shifted by " + by, v, Check.bits(v), (d, to) -> d.shift(to, 1, by), a);
    }

    private static void shiftsUp() {
        int[] ups = {0, 1, 2, 30, 31, 32, 33, 61, 62, 63, 64, 93, 1000, 1984, 2017, 2046, 2047, 2048, 2049, 3999, 4000};
        for (BigInteger a : NUMBERS) {
            for (int by : ups) {
                shifts(a, by);
            }
        }
        for (int by = 0; by < 2048; by += 3) {
            shifts(by % 2 == 0 ? ONE : big(-1), by);
        }
        shifts(ZERO, 4000);
    }

    private static void shiftsDown() {
        int[] downs = {-1, -2, -30, -31, -32, -33, -61, -62, -63, -64, -93, -1000, -2046, -2047, -2048, -2049, -3999, -4000};
        for (BigInteger a : NUMBERS) {
            for (int by : downs) {
                shifts(a, by);
            }
        }
        for (int a = -9; a <= 9; a++) {
            makes(a + " shifted by -2", big(Math.floorDiv(a, 4)), Check.bits(big(Math.floorDiv(a, 4))), (d, to) -> d.shift(to, 1, -2), big(a));
        }
        for (int n = 1; n < 200; n++) {
            // Nothing is cut off, one bit is, and all but one limb of them are.
            shifts(Check.twoTo(n).negate(), -n);
            shifts(Check.twoTo(n).add(ONE).negate(), -n);
            shifts(Check.twoTo(n).negate(), -n - 1);
            shifts(Check.twoTo(200).add(Check.twoTo(n)).negate(), -n);
            shifts(Check.twoTo(200).add(Check.twoTo(n)).negate(), -n - 1);
        }
        makes("the least shifted by -1", Check.twoTo(2047).negate(), 2048, (d, to) -> d.shift(to, 1, -1), LEAST);
        makes("-1 shifted by -4000", big(-1), 1, (d, to) -> d.shift(to, 1, -4000), big(-1));
        makes("1 shifted by -4000", ZERO, 0, (d, to) -> d.shift(to, 1, -4000), ONE);
        makes("the least shifted by -4000", big(-1), 1, (d, to) -> d.shift(to, 1, -4000), LEAST);
        makes("the least shifted by -2048", big(-1), 1, (d, to) -> d.shift(to, 1, -2048), LEAST);
    }

    private static void shiftOverSource() {
        for (BigInteger a : SOME) {
            for (int by : new int[] {0, 1, -1, 31, -31, 100, -100, 4000, -4000}) {
                BigInteger v = a.shiftLeft(by);
                makesAt(1, a + " shifted by " + by, v, Check.bits(v), (d, to) -> d.shift(to, 1, by), a);
            }
        }
    }

    private static void shiftTellsBits() {
        Run run = Run.with(big(5), big(-5), ZERO, LEAST);
        int[][] due = {{1, 0, 3}, {1, 10, 13}, {1, -1, 2}, {1, -3, 0}, {2, 10, 13}, {2, -1, 2}, {2, -2, 2}, {2, -3, 1}, {2, -4000, 1},
            {3, 4000, 0}, {3, 0, 0}, {3, -4000, 0}, {1, 2045, 2048}, {4, 0, 2048}, {4, -1, 2048}, {4, -2, 2047}, {4, -2047, 2}};
        for (int[] row : due) {
            run.gives("shift(9, " + row[0] + ", " + row[1] + ")", row[2], d -> d.shift(9, row[0], row[1]));
        }
    }

    private static void shiftNoRegisters() {
        for (int no : Check.NO_REGISTERS) {
            Run run = Run.with(big(6));
            for (int by : new int[] {0, 1, -1, 4000, -4000}) {
                run.refuses("shift to " + no + " by " + by, Check.ILLEGAL, d -> d.shift(no, 1, by));
                run.refuses("shift of " + no + " by " + by, Check.ILLEGAL, d -> d.shift(4, no, by));
            }
        }
    }

    private static void shiftTooFar() {
        for (int by : new int[] {-4001, 4001, -5000, 5000, Integer.MIN_VALUE, Integer.MAX_VALUE}) {
            for (BigInteger a : new BigInteger[] {big(6), big(-6), ZERO, MOST, LEAST}) {
                Run.with(a).refuses(a + " shifted by " + by, Check.ILLEGAL, d -> d.shift(4, 1, by));
            }
        }
        Run.with(ZERO).makes("0 shifted by 4000", 0, 4, ZERO, d -> d.shift(4, 1, 4000));
        Run.with(big(6)).makes("6 shifted by -4000", 0, 4, ZERO, d -> d.shift(4, 1, -4000));
        Run.with(big(6)).refuses("6 shifted by 4000", Check.ARITHMETIC, d -> d.shift(4, 1, 4000));
    }

    private static BigInteger joined(int what, BigInteger a, BigInteger b) {
        return what == 0 ? a.and(b) : what == 1 ? a.or(b) : a.xor(b);
    }

    private static void joins(int what, BigInteger a, BigInteger b) {
        BigInteger v = joined(what, a, b);
        makes("bits(" + what + ") of " + a + " and " + b, v, v.signum(), (d, to) -> d.bits(what, to, 1, 2), a, b);
    }

    private static void endlessBits() {
        for (int a = -9; a <= 9; a++) {
            for (int b = -9; b <= 9; b++) {
                bitsGive(0, a, b, a & b);
                bitsGive(1, a, b, a | b);
                bitsGive(2, a, b, a ^ b);
            }
        }
        for (int what = 0; what < 3; what++) {
            // A short number below 0 has ones before all the bits of a long one.
            joins(what, MOST, big(-1));
            joins(what, MOST.subtract(ONE), big(-1));
            joins(what, MOST, big(-6));
            joins(what, LEAST, big(-6));
            joins(what, big(-6), Check.twoTo(2047));
            joins(what, LEAST, ONE);
            joins(what, LEAST, LEAST);
            joins(what, LEAST, MOST);
        }
    }

    private static void bitsGive(int what, int a, int b, int v) {
        String name = "bits(" + what + ") of " + a + " and " + b;
        makes(name, big(v), Integer.signum(v), (d, to) -> d.bits(what, to, 1, 2), big(a), big(b));
    }

    /** The bits of -v are those of 2 ** n - v, for each n above. */
    private static void leftOfAGreatPower() {
        for (int n = 1; n < 2048; n += n < 130 || n > 2000 ? 1 : 61) {
            BigInteger v = Check.twoTo(n).negate();
            BigInteger mask = Check.twoTo(Math.min(2048, n + 40)).subtract(ONE);
            BigInteger want = mask.add(ONE).add(v);
            makes(v + " cut by and", want, 1, (d, to) -> d.bits(0, to, 1, 2), v, mask);
            joins(0, v, v.add(ONE));
            joins(1, v, v.subtract(ONE));
            joins(2, v, Check.twoTo(n));
            joins(2, v, v.add(ONE));
        }
    }

    private static void bitsOverSources() {
        for (BigInteger a : SOME) {
            for (int what = 0; what < 3; what++) {
                int kind = what;
                for (BigInteger b : SOME) {
                    BigInteger v = joined(what, a, b);
                    makesAt(1, "bits(" + what + ") of " + a + ", " + b, v, v.signum(), (d, to) -> d.bits(kind, to, 1, 2), a, b);
                    makesAt(2, "bits(" + what + ") of " + a + ", " + b, v, v.signum(), (d, to) -> d.bits(kind, to, 1, 2), a, b);
                }
                BigInteger same = joined(what, a, a);
                makesAt(1, "bits(" + what + ") of " + a + " and itself", same, same.signum(), (d, to) -> d.bits(kind, to, 1, 1), a);
            }
        }
    }

    private static void bitsTellSign() {
        Run run = Run.with(big(5), big(-5), ZERO, big(2), big(-1));
        int[][] due = {{0, 1, 4, 0}, {0, 1, 2, 1}, {0, 2, 2, -1}, {0, 2, 5, -1}, {0, 3, 5, 0}, {1, 1, 4, 1}, {1, 1, 2, -1}, {1, 3, 3, 0},
            {1, 2, 3, -1}, {2, 1, 1, 0}, {2, 2, 2, 0}, {2, 1, 2, -1}, {2, 2, 5, 1}, {2, 1, 4, 1}, {2, 3, 5, -1}};
        for (int[] row : due) {
            run.gives("bits(" + row[0] + ", 9, " + row[1] + ", " + row[2] + ")", row[3], d -> d.bits(row[0], 9, row[1], row[2]));
        }
    }

    private static void bitsNoRegisters() {
        for (int no : Check.NO_REGISTERS) {
            Run run = Run.with(big(6), big(-7));
            for (int what = 0; what < 3; what++) {
                int kind = what;
                run.refuses("bits(" + what + ") to " + no, Check.ILLEGAL, d -> d.bits(kind, no, 1, 2));
                run.refuses("bits(" + what + ") a " + no, Check.ILLEGAL, d -> d.bits(kind, 4, no, 2));
                run.refuses("bits(" + what + ") b " + no, Check.ILLEGAL, d -> d.bits(kind, 4, 1, no));
            }
        }
    }

    private static void bitsNoKind() {
        for (int what : NO_KINDS) {
            Run.with(big(6), big(-7)).refuses("bits(" + what + ", 4, 1, 2)", Check.ILLEGAL, d -> d.bits(what, 4, 1, 2));
            Run.with(big(6), big(-7)).refuses("bits(" + what + ", 16, 1, 2)", Check.ILLEGAL, d -> d.bits(what, 16, 1, 2));
        }
    }

    private static void powers(BigInteger a, int n) {
        BigInteger v = a.pow(n);
        makes(a + " to the power of " + n, v, Check.bits(v), (d, to) -> d.power(to, 1, n), a);
    }

    private static void powersOf() {
        for (int a = -12; a <= 12; a++) {
            for (int n = 0; n < 300; n += n < 10 ? 1 : 37) {
                powers(big(a), n);
            }
        }
        for (BigInteger a : NUMBERS) {
            powers(a, 0);
            powers(a, 1);
            powers(a, 2);
            powers(a, 3);
        }
        for (int n = 1; n < 2048; n += 61) {
            powers(big(2), n);
            powers(big(-2), n);
        }
    }

    private static void zeroToThePowerOfZero() {
        powers(ZERO, 0);
        makes("0 to the power of 0", ONE, 1, (d, to) -> d.power(to, 1, 0), ZERO);
        new Run().gives("power(0, 0, 0) of a new object", 1, d -> d.power(0, 0, 0)).holds("power", 0, ONE);
        new Run().type("-0").then(d -> d.read(1, 10)).gives("power of -0", 1, d -> d.power(2, 1, 0)).holds("power", 2, ONE);
        powers(ZERO, 1);
        powers(ZERO, 2);
    }

    private static void greatPowers() {
        int most = Integer.MAX_VALUE;
        for (int n : new int[] {most, most - 1, 1 << 30, (1 << 30) + 1, 4096, 4097, 65535}) {
            makes("0 to the power of " + n, ZERO, 0, (d, to) -> d.power(to, 1, n), ZERO);
            makes("1 to the power of " + n, ONE, 1, (d, to) -> d.power(to, 1, n), ONE);
            makes("-1 to the power of " + n, big(n % 2 == 0 ? 1 : -1), 1, (d, to) -> d.power(to, 1, n), big(-1));
            for (BigInteger a : new BigInteger[] {big(2), big(-2), big(3), MOST, LEAST}) {
                Run.with(a).refuses(a + " to the power of " + n, Check.ARITHMETIC, d -> d.power(4, 1, n));
            }
        }
    }

    private static void powerOverSource() {
        for (BigInteger a : SOME) {
            for (int n = 0; n < 5; n++) {
                int by = n;
                makesAt(1, a + " to the power of " + n, a.pow(n), Check.bits(a.pow(n)), (d, to) -> d.power(to, 1, by), a);
            }
        }
    }

    private static void powerTellsBits() {
        Run run = Run.with(big(2), big(-3), ZERO, LEAST);
        int[][] due = {{1, 0, 1}, {1, 1, 2}, {1, 10, 11}, {1, 2047, 2048}, {2, 0, 1}, {2, 2, 4}, {2, 3, 5}, {2, 1292, 2048}, {3, 0, 1},
            {3, 1, 0}, {3, 9, 0}, {4, 0, 1}, {4, 1, 2048}};
        for (int[] row : due) {
            run.gives("power(9, " + row[0] + ", " + row[1] + ")", row[2], d -> d.power(9, row[0], row[1]));
        }
    }

    private static void powerNoRegisters() {
        for (int no : Check.NO_REGISTERS) {
            Run run = Run.with(big(6));
            for (int n : new int[] {0, 1, 2, 5000}) {
                run.refuses("power to " + no + " by " + n, Check.ILLEGAL, d -> d.power(no, 1, n));
                run.refuses("power of " + no + " by " + n, Check.ILLEGAL, d -> d.power(4, no, n));
            }
        }
    }

    private static void powerBelowZero() {
        for (int n : new int[] {-1, -2, -4000, Integer.MIN_VALUE}) {
            for (BigInteger a : new BigInteger[] {ZERO, ONE, big(-1), big(2), MOST, LEAST}) {
                Run.with(a).refuses(a + " to the power of " + n, Check.ILLEGAL, d -> d.power(4, 1, n));
            }
        }
    }

    private static BigInteger left(BigInteger a, BigInteger b, BigInteger m) {
        BigInteger v = a.modPow(b, m.abs());
        return m.signum() < 0 && v.signum() != 0 ? v.add(m) : v;
    }

    private static void leaves(BigInteger a, BigInteger b, BigInteger m) {
        BigInteger v = left(a, b, m);
        makes("what is left of " + a + " ** " + b + " by " + m, v, v.signum(), (d, to) -> d.residue(to, 1, 2, 3), a, b, m);
    }

    private static void leaves(long a, long b, long m, long want) {
        String name = "what is left of " + a + " ** " + b + " by " + m;
        makes(name, big(want), Long.signum(want), (d, to) -> d.residue(to, 1, 2, 3), big(a), big(b), big(m));
    }

    private static void residues() {
        for (int i = 0; i < NUMBERS.length; i++) {
            BigInteger m = NUMBERS[(i * 7 + 3) % NUMBERS.length];
            BigInteger b = NUMBERS[(i * 5 + 1) % NUMBERS.length].abs();
            if (m.signum() != 0) {
                leaves(NUMBERS[i], b, m);
                leaves(NUMBERS[i], b, m.negate());
            }
        }
        leaves(3, 500, 1000003, big(3).modPow(big(500), big(1000003)).longValue());
        leaves(2, 61, (1L << 61) - 1, 1);
        leaves(10, Long.MAX_VALUE, 1L << 62, 0);
        leaves(LEAST, MOST, MOST.subtract(big(2)).negate());
        leaves(MOST.subtract(ONE), MOST, MOST);
    }

    private static void residueHasSignOfM() {
        for (int a = -7; a <= 7; a++) {
            for (int b = 0; b <= 5; b++) {
                for (int m = -6; m <= 6; m++) {
                    if (m != 0) {
                        leaves(big(a), big(b), big(m));
                    }
                }
            }
        }
        leaves(7, 1, 5, 2);
        leaves(7, 1, -5, -3);
        leaves(-7, 1, 5, 3);
        leaves(-7, 1, -5, -2);
        leaves(-7, 2, 5, 4);
        leaves(-7, 2, -5, -1);
        leaves(-7, 3, 5, 2);
        leaves(10, 1, -5, 0);
        leaves(-10, 3, 5, 0);
        leaves(big(-1), ONE, MOST);
        leaves(ONE, ONE, LEAST);
        leaves(LEAST.add(ONE), ONE, MOST);
        leaves(MOST.subtract(ONE), ONE, LEAST);
    }

    private static void residueOfPowerZero() {
        leaves(0, 0, 5, 1);
        leaves(0, 0, -5, -4);
        leaves(7, 0, 5, 1);
        leaves(-7, 0, 5, 1);
        leaves(-7, 0, -5, -4);
        leaves(0, 1, 5, 0);
        leaves(0, 9, -5, 0);
        leaves(5, 0, 2, 1);
        leaves(5, 0, -2, -1);
        leaves(LEAST, ZERO, LEAST);
        leaves(MOST, ZERO, MOST);
    }

    private static void residueByOne() {
        for (BigInteger a : SOME) {
            for (BigInteger b : new BigInteger[] {ZERO, ONE, big(2), MOST}) {
                leaves(a, b, ONE);
                leaves(a, b, big(-1));
            }
        }
        leaves(0, 0, 1, 0);
        leaves(0, 0, -1, 0);
    }

    private static void residueOverSources() {
        BigInteger[][] values = {{big(-3), big(5), big(10)}, {LEAST, big(3), Check.twoTo(700).add(ONE)}, {big(9), big(100), big(-13)}};
        for (BigInteger[] three : values) {
            BigInteger v = left(three[0], three[1], three[2]);
            for (int to = 1; to <= 3; to++) {
                makesAt(to, "residue(" + to + ", 1, 2, 3)", v, v.signum(), (d, r) -> d.residue(r, 1, 2, 3), three);
            }
        }
        for (int v = 1; v < 9; v++) {
            makesAt(1, "residue(1, 1, 1, 1) of " + v, ZERO, 0, (d, to) -> d.residue(to, 1, 1, 1), big(v));
            BigInteger want = big(v).pow(v).mod(big(11));
            makesAt(1, "residue(1, 1, 1, 2) of " + v, want, want.signum(), (d, to) -> d.residue(to, 1, 1, 2), big(v), big(11));
            BigInteger other = big(11).modPow(big(v), big(v));
            makesAt(1, "residue(1, 2, 1, 1) of " + v, other, other.signum(), (d, to) -> d.residue(to, 2, 1, 1), big(v), big(11));
        }
    }

    private static void residueTellsSign() {
        Run run = Run.with(big(7), big(-7), big(3), big(5), big(-5), ZERO, big(-35));
        int[][] due = {{1, 3, 4, 1}, {1, 3, 5, -1}, {2, 3, 4, 1}, {2, 3, 5, -1}, {7, 3, 4, 0}, {7, 3, 5, 0}, {6, 3, 4, 0}, {6, 6, 4, 1},
            {6, 6, 5, -1}, {1, 6, 5, -1}};
        for (int[] row : due) {
            String name = "residue(9, " + row[0] + ", " + row[1] + ", " + row[2] + ")";
            run.gives(name, row[3], d -> d.residue(9, row[0], row[1], row[2]));
        }
    }

    private static void residueNoRegisters() {
        for (int no : Check.NO_REGISTERS) {
            Run run = Run.with(big(6), big(7), big(8));
            run.refuses("residue to " + no, Check.ILLEGAL, d -> d.residue(no, 1, 2, 3));
            run.refuses("residue a " + no, Check.ILLEGAL, d -> d.residue(4, no, 2, 3));
            run.refuses("residue b " + no, Check.ILLEGAL, d -> d.residue(4, 1, no, 3));
            run.refuses("residue m " + no, Check.ILLEGAL, d -> d.residue(4, 1, 2, no));
        }
    }

    private static void residueBelowZero() {
        for (BigInteger b : new BigInteger[] {big(-1), big(-2), big(Long.MIN_VALUE), LEAST}) {
            for (BigInteger a : new BigInteger[] {ZERO, ONE, big(-1), big(3), MOST}) {
                for (BigInteger m : new BigInteger[] {ONE, big(-1), big(7), LEAST}) {
                    Run.with(a, b, m).refuses(a + " ** " + b + " by " + m, Check.ILLEGAL, d -> d.residue(4, 1, 2, 3));
                }
            }
        }
    }

    private static void residueByZero() {
        for (BigInteger b : new BigInteger[] {ZERO, ONE, big(2), MOST}) {
            for (BigInteger a : new BigInteger[] {ZERO, ONE, big(-1), big(3), LEAST}) {
                Run.with(a, b, ZERO).refuses(a + " ** " + b + " by 0", Check.ARITHMETIC, d -> d.residue(4, 1, 2, 3));
            }
        }
        for (BigInteger b : new BigInteger[] {big(-1), big(-2), LEAST}) {
            Run.with(big(3), b, ZERO).refuses("3 ** " + b + " by 0", Check.ILLEGAL, d -> d.residue(4, 1, 2, 3));
        }
        new Run().refuses("residue of a new object", Check.ARITHMETIC, d -> d.residue(0, 0, 0, 0));
    }
}
