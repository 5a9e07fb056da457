import java.math.BigInteger;

/** Promises 7 to 12: what makes numbers of numbers. */
public final class WorkTest {
    private static final BigInteger[] NUMBERS = numbers();

    public static void main(String[] args) {
        promise7Work();
        promise8Divide();
        promise8HardDivisions();
        promise9Shift();
        promise10Bits();
        promise11Power();
        promise12Residue();
        resultsOverTheirSources();
        Check.finish("WorkTest");
    }

    private static BigInteger[] numbers() {
        String[] small = {"0", "1", "-1", "2", "-2", "7", "-7", "10", "2147483647", "-2147483648", "2147483649",
            "9223372036854775807", "-9223372036854775808", "170141183460469231731687303715884105727"};
        BigInteger[] all = new BigInteger[small.length * 2 + 10];
        for (int i = 0; i < small.length; i++) {
            all[i] = Check.big(small[i]);
            all[small.length + i] = Check.MOST.subtract(all[i].abs().shiftLeft(i * 60)).multiply(Check.big(i % 2 == 0 ? "1" : "-1"));
        }
        int at = small.length * 2;
        for (int n : new int[] {62, 93, 1023, 1024, 2047}) {
            all[at++] = Check.twoTo(n);
            all[at++] = Check.twoTo(n).negate().add(Check.big("3"));
        }
        return all;
    }

    /** A new desk with a, b, c in registers 1, 2, 3 and something in all others. */
    private static LimbDesk deskWith(BigInteger a, BigInteger b, BigInteger c) {
        LimbDesk desk = new LimbDesk();
        for (int r = 4; r < 16; r++) {
            desk.set(r, 1000 + r);
        }
        Check.put(desk, 1, a);
        Check.put(desk, 2, b);
        Check.put(desk, 3, c);
        return desk;
    }

    private static LimbDesk deskWith(BigInteger a, BigInteger b) {
        return deskWith(a, b, BigInteger.ZERO);
    }

    private static BigInteger big(long v) {
        return BigInteger.valueOf(v);
    }

    private static boolean fits(BigInteger v) {
        return v.abs().bitLength() <= 2048;
    }

    /** want is the sign or the BITS; v what register 4 must hold, or too much for it. */
    private static void gives(LimbDesk desk, String call, BigInteger v, long want, Check.Call run) {
        if (fits(v)) {
            Check.due(call, run.run(), want);
            Check.holds(desk, call, 4, v);
        } else {
            Check.refuses(desk, call, ArithmeticException.class, run);
        }
    }

    private static void promise7Work() {
        for (BigInteger a : NUMBERS) {
            for (BigInteger b : NUMBERS) {
                works(0, a, b, a.add(b));
                works(1, a, b, a.subtract(b));
                works(2, a, b, a.multiply(b));
            }
        }
        works(0, Check.MOST, big(-1), Check.MOST.subtract(Check.ONE));
        works(0, Check.MOST, big(1), Check.MOST.add(Check.ONE));
        works(1, Check.MOST.negate(), big(1), Check.MOST.negate().subtract(Check.ONE));
        works(2, Check.twoTo(1024), Check.twoTo(1023), Check.twoTo(2047));
        works(2, Check.twoTo(1024), Check.twoTo(1024).negate(), Check.twoTo(2048).negate());
        LimbDesk desk = deskWith(big(6), big(7));
        for (int what : new int[] {-1, 3, Integer.MIN_VALUE, Integer.MAX_VALUE}) {
            Check.refuses(desk, "work(" + what + ", 4, 1, 2)", IllegalArgumentException.class, () -> desk.work(what, 4, 1, 2));
        }
        for (int what = 0; what < 3; what++) {
            int kind = what;
            Check.refusesRegisters(desk, "work to", r -> desk.work(kind, r, 1, 2));
            Check.refusesRegisters(desk, "work a", r -> desk.work(kind, 4, r, 2));
            Check.refusesRegisters(desk, "work b", r -> desk.work(kind, 4, 1, r));
        }
    }

    private static void works(int what, BigInteger a, BigInteger b, BigInteger v) {
        LimbDesk desk = deskWith(a, b);
        gives(desk, "work(" + what + ") of " + a + ", " + b, v, v.signum(), () -> desk.work(what, 4, 1, 2));
    }

    private static void promise8Divide() {
        for (BigInteger a : NUMBERS) {
            for (BigInteger b : NUMBERS) {
                if (b.signum() != 0) {
                    divides(a, b);
                }
            }
        }
        for (int a = -9; a <= 9; a++) {
            divides(big(a), big(4));
            divides(big(a), big(-4));
        }
        LimbDesk desk = deskWith(big(6), big(0));
        Check.refuses(desk, "divide by 0", ArithmeticException.class, () -> desk.divide(false, 4, 5, 1, 2));
        Check.refuses(desk, "divide down by 0", ArithmeticException.class, () -> desk.divide(true, 4, 5, 1, 2));
        Check.refuses(desk, "divide 0 by 0", ArithmeticException.class, () -> desk.divide(true, 4, 5, 2, 2));
        Check.refuses(desk, "divide by 0, to is rest", IllegalArgumentException.class, () -> desk.divide(false, 4, 4, 1, 2));
        Check.refuses(desk, "divide, to is rest", IllegalArgumentException.class, () -> desk.divide(true, 4, 4, 2, 1));
        for (int b = 1; b <= 2; b++) {
            int by = b;
            Check.refusesRegisters(desk, "divide to", r -> desk.divide(false, r, 5, 1, by));
            Check.refusesRegisters(desk, "divide rest", r -> desk.divide(true, 4, r, 1, by));
            Check.refusesRegisters(desk, "divide a", r -> desk.divide(false, 4, 5, r, by));
            Check.refusesRegisters(desk, "divide b", r -> desk.divide(true, 4, 5, by, r));
        }
    }

    private static void divides(BigInteger a, BigInteger b) {
        BigInteger[] cut = a.divideAndRemainder(b);
        BigInteger[] down = cut.clone();
        if (cut[1].signum() * b.signum() < 0) {
            down[0] = cut[0].subtract(Check.ONE);
            down[1] = cut[1].add(b);
        }
        divides(false, a, b, cut);
        divides(true, a, b, down);
    }

    private static void divides(boolean down, BigInteger a, BigInteger b, BigInteger[] want) {
        LimbDesk desk = deskWith(a, b);
        String call = "divide(" + down + ") of " + a + ", " + b;
        Check.due(call, desk.divide(down, 4, 5, 1, 2), want[1].signum());
        Check.holds(desk, call, 4, want[0]);
        Check.holds(desk, call, 5, want[1]);
    }

    /** Divisors and dividends whose limbs are 0 or full make wrong guesses of a digit, for any size of limb. */
    private static void promise8HardDivisions() {
        int[] widths = {15, 16, 28, 30, 31, 32, 62, 64};
        for (int width : widths) {
            BigInteger full = Check.twoTo(width).subtract(Check.ONE);
            BigInteger half = Check.twoTo(width - 1);
            BigInteger[] tops = {full, half, half.add(Check.ONE), half.subtract(Check.ONE), full.subtract(Check.ONE), Check.ONE};
            for (BigInteger top : tops) {
                for (BigInteger low : tops) {
                    BigInteger divisor = top.shiftLeft(2 * width).add(low);
                    divides(divisor.multiply(full).add(divisor).subtract(Check.ONE), divisor);
                    divides(divisor.shiftLeft(width).subtract(Check.ONE), divisor);
                    divides(top.shiftLeft(3 * width).subtract(Check.ONE), divisor.negate());
                    divides(half.shiftLeft(3 * width).add(low), divisor);
                }
            }
        }
    }

    private static void promise9Shift() {
        int[] shifts = {0, 1, -1, 2, -2, 30, 31, 32, 33, -30, -31, -32, -33, 61, 62, 63, 64, -61, -62, -63, -64, 93, -93,
            1000, -1000, 1984, 2017, 2046, 2047, 2048, 2049, -2046, -2047, -2048, -2049, 3999, 4000, -3999, -4000};
        for (BigInteger a : NUMBERS) {
            for (int by : shifts) {
                LimbDesk desk = deskWith(a, big(0));
                BigInteger v = a.shiftLeft(by);
                gives(desk, "shift of " + a + " by " + by, v, v.abs().bitLength(), () -> desk.shift(4, 1, by));
            }
        }
        LimbDesk desk = deskWith(big(6), big(0));
        for (int by : new int[] {-4001, 4001, Integer.MIN_VALUE, Integer.MAX_VALUE}) {
            Check.refuses(desk, "shift by " + by, IllegalArgumentException.class, () -> desk.shift(4, 1, by));
            Check.refuses(desk, "shift of 0 by " + by, IllegalArgumentException.class, () -> desk.shift(4, 2, by));
        }
        Check.refusesRegisters(desk, "shift to", r -> desk.shift(r, 1, 4000));
        Check.refusesRegisters(desk, "shift a", r -> desk.shift(4, r, 1));
    }

    private static void promise10Bits() {
        for (BigInteger a : NUMBERS) {
            for (BigInteger b : NUMBERS) {
                joins(0, a, b, a.and(b));
                joins(1, a, b, a.or(b));
                joins(2, a, b, a.xor(b));
            }
        }
        joins(0, Check.MOST.negate(), big(-2), Check.twoTo(2048).negate());
        joins(2, Check.MOST, big(-1), Check.twoTo(2048).negate());
        joins(2, Check.MOST.subtract(Check.ONE), big(-1), Check.MOST.negate());
        LimbDesk desk = deskWith(big(6), big(-7));
        for (int what : new int[] {-1, 3, Integer.MIN_VALUE, Integer.MAX_VALUE}) {
            Check.refuses(desk, "bits(" + what + ", 4, 1, 2)", IllegalArgumentException.class, () -> desk.bits(what, 4, 1, 2));
        }
        Check.refusesRegisters(desk, "bits to", r -> desk.bits(0, r, 1, 2));
        Check.refusesRegisters(desk, "bits a", r -> desk.bits(1, 4, r, 2));
        Check.refusesRegisters(desk, "bits b", r -> desk.bits(2, 4, 1, r));
    }

    private static void joins(int what, BigInteger a, BigInteger b, BigInteger v) {
        LimbDesk desk = deskWith(a, b);
        gives(desk, "bits(" + what + ") of " + a + ", " + b, v, v.signum(), () -> desk.bits(what, 4, 1, 2));
    }

    private static void promise11Power() {
        for (int a = -12; a <= 12; a++) {
            for (int n = 0; n < 300; n += n < 10 ? 1 : 37) {
                powers(big(a), n);
            }
        }
        for (int n : new int[] {2046, 2047, 2048, 2049, 4096}) {
            powers(big(2), n);
            powers(big(-2), n);
        }
        for (BigInteger a : NUMBERS) {
            powers(a, 0);
            powers(a, 1);
            powers(a, 2);
        }
        powers(big(3), 1292);
        powers(big(3), 1293);
        powers(Check.twoTo(1024).subtract(Check.ONE), 2);
        powersTo(big(0), Integer.MAX_VALUE, big(0));
        powersTo(big(1), Integer.MAX_VALUE, big(1));
        powersTo(big(-1), Integer.MAX_VALUE, big(-1));
        powersTo(big(-1), Integer.MAX_VALUE - 1, big(1));
        powersTo(big(2), Integer.MAX_VALUE, Check.twoTo(3000));
        powersTo(Check.MOST.negate(), Integer.MAX_VALUE, Check.twoTo(3000));
        LimbDesk desk = deskWith(big(6), big(1));
        for (int n : new int[] {-1, -2, Integer.MIN_VALUE}) {
            Check.refuses(desk, "power of 6 by " + n, IllegalArgumentException.class, () -> desk.power(4, 1, n));
            Check.refuses(desk, "power of 1 by " + n, IllegalArgumentException.class, () -> desk.power(4, 2, n));
        }
        Check.refusesRegisters(desk, "power to", r -> desk.power(r, 1, 5000));
        Check.refusesRegisters(desk, "power a", r -> desk.power(4, r, 0));
    }

    private static void powers(BigInteger a, int n) {
        powersTo(a, n, a.pow(n));
    }

    private static void powersTo(BigInteger a, int n, BigInteger v) {
        LimbDesk desk = deskWith(a, big(0));
        gives(desk, "power of " + a + " by " + n, v, v.abs().bitLength(), () -> desk.power(4, 1, n));
    }

    private static void promise12Residue() {
        for (int a = -7; a <= 7; a++) {
            for (int b = 0; b <= 5; b++) {
                for (int m = -6; m <= 6; m++) {
                    if (m != 0) {
                        leaves(big(a), big(b), big(m));
                    }
                }
            }
        }
        for (int i = 0; i < NUMBERS.length; i++) {
            BigInteger m = NUMBERS[(i * 7 + 3) % NUMBERS.length];
            BigInteger b = NUMBERS[(i * 5 + 1) % NUMBERS.length].abs();
            if (m.signum() != 0) {
                leaves(NUMBERS[i], b, m);
                leaves(NUMBERS[i], b, m.negate());
                leaves(NUMBERS[i], big(0), m);
            }
        }
        leaves(Check.MOST.negate(), Check.MOST, Check.MOST.subtract(big(2)).negate());
        LimbDesk desk = deskWith(big(6), big(-1), big(0));
        Check.refuses(desk, "residue, m is 0", ArithmeticException.class, () -> desk.residue(4, 1, 1, 3));
        Check.refuses(desk, "residue, m is 0 and so is b", ArithmeticException.class, () -> desk.residue(4, 3, 3, 3));
        Check.refuses(desk, "residue, b below 0", IllegalArgumentException.class, () -> desk.residue(4, 1, 2, 1));
        Check.refuses(desk, "residue, b below 0, m is 0", IllegalArgumentException.class, () -> desk.residue(4, 1, 2, 3));
        for (int m = 1; m <= 3; m += 2) {
            int by = m;
            Check.refusesRegisters(desk, "residue to", r -> desk.residue(r, 1, 1, by));
            Check.refusesRegisters(desk, "residue a", r -> desk.residue(4, r, 1, by));
            Check.refusesRegisters(desk, "residue b", r -> desk.residue(4, 1, r, by));
            Check.refusesRegisters(desk, "residue m", r -> desk.residue(4, 1, by, r));
        }
    }

    private static void leaves(BigInteger a, BigInteger b, BigInteger m) {
        BigInteger v = a.modPow(b, m.abs());
        if (m.signum() < 0 && v.signum() != 0) {
            v = v.add(m);
        }
        LimbDesk desk = deskWith(a, b, m);
        gives(desk, "residue of " + a + ", " + b + ", " + m, v, v.signum(), () -> desk.residue(4, 1, 2, 3));
    }

    /** A register may be a source and the target of one call: the sources are as they were before it. */
    private static void resultsOverTheirSources() {
        LimbDesk desk = new LimbDesk();
        for (int what = 0; what < 3; what++) {
            int[] same = {-28, 0, 196};
            desk.set(0, -14);
            desk.work(what, 0, 0, 0);
            Check.due("work(" + what + ", 0, 0, 0)", desk.small(0), same[what]);
            int[] bits = {-14, -14, 0};
            desk.set(0, -14);
            desk.bits(what, 0, 0, 0);
            Check.due("bits(" + what + ", 0, 0, 0)", desk.small(0), bits[what]);
        }
        divideOver(desk, 0, 1);
        divideOver(desk, 1, 0);
        desk.set(0, 5);
        Check.due("divide of one register by itself", desk.divide(true, 0, 1, 0, 0), 0);
        Check.due("its quotient", desk.small(0), 1);
        desk.set(0, 5);
        desk.divide(false, 1, 0, 0, 0);
        Check.due("its rest", desk.small(0), 0);
        desk.set(0, -5);
        desk.shift(0, 0, -1);
        Check.due("shift(0, 0, -1)", desk.small(0), -3);
        desk.power(0, 0, 3);
        Check.due("power(0, 0, 3)", desk.small(0), -27);
        desk.set(0, 7);
        desk.residue(0, 0, 0, 0);
        Check.due("residue(0, 0, 0, 0)", desk.small(0), 0);
        for (int to = 0; to < 3; to++) {
            desk.set(0, -3);
            desk.set(1, 5);
            desk.set(2, 10);
            Check.due("residue(" + to + ", 0, 1, 2)", desk.residue(to, 0, 1, 2), 1);
            Check.due("what it left", desk.small(to), 7);
        }
    }

    private static void divideOver(LimbDesk desk, int to, int rest) {
        desk.set(0, 17);
        desk.set(1, -5);
        Check.due("divide(true) over its sources", desk.divide(true, to, rest, 0, 1), -1);
        Check.due("register 0", desk.small(0), to == 0 ? -4 : -3);
        Check.due("register 1", desk.small(1), to == 0 ? -3 : -4);
        desk.set(0, 17);
        desk.set(1, -5);
        Check.due("divide(false) over its sources", desk.divide(false, to, rest, 0, 1), 1);
        Check.due("register 0", desk.small(0), to == 0 ? -3 : 2);
        Check.due("register 1", desk.small(1), to == 0 ? 2 : -3);
    }
}
