import java.math.BigInteger;

/** The sentences under 'Terms', which hold for every call, and the one on the calls an object is for. */
public final class TermsTest {
    private static final String REGISTERS = "REGISTERS 0..15.";
    private static final String BITS = "BITS of a number: of it without its sign, without zeros in front (0 has none).";
    private static final String TOO_GREAT = "A result of more than 2048 BITS: ArithmeticException, as if the call had not been.";
    private static final String LINE = "THE LINE: up to 2100 letters.";
    private static final String FIRST = "In each call IllegalArgumentException (a REGISTER that there is not, or what is said) "
        + "is looked for first.";
    private static final String UNCHANGED = "A call that throws changes nothing, but as said.";
    private static final String CALLS = "An object is used for at most 512 calls after it has been made";

    private static final BigInteger MOST = Check.MOST;
    private static final BigInteger LEAST = MOST.negate();
    private static final BigInteger ONE = Check.ONE;

    /** A call in which one of the registers is left open. */
    private interface Open {
        long on(LimbDesk desk, int r);
    }

    private record Named(String name, Open call) {
    }

    public static void main(String[] args) {
        Check.sentence(REGISTERS, TermsTest::everyRegisterIsATarget);
        Check.sentence(REGISTERS, TermsTest::everyRegisterIsASource);
        Check.sentence(REGISTERS, TermsTest::noOtherRegister);
        Check.sentence(BITS, TermsTest::bitsWithoutSign);
        Check.sentence(BITS, TermsTest::bitsWithoutZerosInFront);
        Check.sentence(BITS, TermsTest::zeroHasNoBits);
        Check.sentence(TOO_GREAT, TermsTest::tooGreatSum);
        Check.sentence(TOO_GREAT, TermsTest::tooGreatDifference);
        Check.sentence(TOO_GREAT, TermsTest::tooGreatProduct);
        Check.sentence(TOO_GREAT, TermsTest::tooGreatShift);
        Check.sentence(TOO_GREAT, TermsTest::tooGreatBits);
        Check.sentence(TOO_GREAT, TermsTest::tooGreatPower);
        Check.sentence(TOO_GREAT, TermsTest::tooGreatRead);
        Check.sentence(TOO_GREAT, TermsTest::neverTooGreat);
        Check.sentence(LINE, TermsTest::lineOf2100Letters);
        Check.sentence(FIRST, TermsTest::illegalBeforeFullLine);
        Check.sentence(FIRST, TermsTest::illegalBeforeTooGreat);
        Check.sentence(FIRST, TermsTest::illegalBeforeDividedByZero);
        Check.sentence(UNCHANGED, TermsTest::thrownCallsLeaveNoTrace);
        Check.sentence(CALLS, TermsTest::all512CallsAreAnswered);
        Check.finish("TermsTest");
    }

    /** Register r holds 100 + r. */
    private static Run hundreds() {
        Run run = new Run();
        for (int k = 0; k < 16; k++) {
            int r = k;
            run.then(d -> d.set(r, 100 + r));
        }
        return run;
    }

    private static BigInteger big(long v) {
        return Check.big(v);
    }

    private static void everyRegisterIsATarget() {
        for (int k = 0; k < 16; k++) {
            int r = k;
            int other = (r + 1) % 16;
            hundreds().makes("set(" + r + ", -5)", 7, r, big(-5), d -> d.set(r, -5));
            hundreds().type("-9").gives("read(" + r + ", 10)", 4, d -> d.read(r, 10)).holds("read", r, big(-9)).lineIs("");
            hundreds().makes("work(0, " + r + ", 1, 2)", 1, r, big(203), d -> d.work(0, r, 1, 2));
            hundreds().makes("work(1, " + r + ", 1, 2)", -1, r, big(-1), d -> d.work(1, r, 1, 2));
            hundreds().makes("work(2, " + r + ", 1, 2)", 1, r, big(101 * 102), d -> d.work(2, r, 1, 2));
            hundreds().gives("divide(false, " + r + ", " + other + ", 3, 1)", 1, d -> d.divide(false, r, other, 3, 1))
                .holds("divide", r, big(1)).holds("divide", other, big(2));
            hundreds().gives("divide(true, " + other + ", " + r + ", 3, 1)", 1, d -> d.divide(true, other, r, 3, 1))
                .holds("divide", other, big(1)).holds("divide", r, big(2));
            hundreds().makes("shift(" + r + ", 1, 3)", 10, r, big(808), d -> d.shift(r, 1, 3));
            hundreds().makes("bits(0, " + r + ", 1, 2)", 1, r, big(100), d -> d.bits(0, r, 1, 2));
            hundreds().makes("bits(1, " + r + ", 1, 2)", 1, r, big(103), d -> d.bits(1, r, 1, 2));
            hundreds().makes("bits(2, " + r + ", 1, 2)", 1, r, big(3), d -> d.bits(2, r, 1, 2));
            hundreds().makes("power(" + r + ", 1, 3)", 20, r, big(101 * 101 * 101), d -> d.power(r, 1, 3));
            hundreds().makes("residue(" + r + ", 1, 2, 3)", 1, r, big(101).modPow(big(102), big(103)), d -> d.residue(r, 1, 2, 3));
        }
    }

    private static void everyRegisterIsASource() {
        for (int k = 0; k < 16; k++) {
            int r = k;
            BigInteger v = big(100 + r);
            int twoSign = v.compareTo(big(102));
            new Run(hundreds()).gives("show(" + r + ", 10)", 3, d -> d.show(r, 10)).lineIs(v.toString());
            hundreds().makes("work(0, 4, " + r + ", 2)", 1, 4, v.add(big(102)), d -> d.work(0, 4, r, 2));
            hundreds().makes("work(1, 4, 2, " + r + ")", -twoSign, 4, big(102).subtract(v), d -> d.work(1, 4, 2, r));
            hundreds().gives("divide(false, 4, 5, " + r + ", 0)", v.mod(big(100)).signum(), d -> d.divide(false, 4, 5, r, 0))
                .holds("divide", 4, ONE).holds("divide", 5, v.mod(big(100)));
            hundreds().gives("divide(true, 4, 5, 15, " + r + ")", big(115).mod(v).signum(), d -> d.divide(true, 4, 5, 15, r))
                .holds("divide", 4, ONE).holds("divide", 5, big(115).mod(v));
            hundreds().makes("shift(4, " + r + ", 1)", 8, 4, v.shiftLeft(1), d -> d.shift(4, r, 1));
            hundreds().makes("bits(2, 4, " + r + ", 0)", v.xor(big(100)).signum(), 4, v.xor(big(100)), d -> d.bits(2, 4, r, 0));
            hundreds().makes("bits(0, 4, 0, " + r + ")", 1, 4, v.and(big(100)), d -> d.bits(0, 4, 0, r));
            hundreds().makes("power(4, " + r + ", 2)", Check.bits(v.pow(2)), 4, v.pow(2), d -> d.power(4, r, 2));
            hundreds().makes("residue(4, " + r + ", 1, 7)", v.modPow(big(101), big(107)).signum(), 4, v.modPow(big(101), big(107)),
                d -> d.residue(4, r, 1, 7));
            hundreds().makes("residue(4, 1, " + r + ", 7)", 1, 4, big(101).modPow(v, big(107)), d -> d.residue(4, 1, r, 7));
            hundreds().makes("residue(4, 1, 2, " + r + ")", big(101).modPow(big(102), v).signum(), 4, big(101).modPow(big(102), v),
                d -> d.residue(4, 1, 2, r));
            hundreds().asks("compare(" + r + ", 2)", twoSign, d -> d.compare(r, 2));
            hundreds().asks("compare(2, " + r + ")", -twoSign, d -> d.compare(2, r));
            hundreds().asks("small(" + r + ")", 100 + r, d -> d.small(r));
            hundreds().asks("low(" + r + ")", 100 + r, d -> d.low(r));
            hundreds().asks("folded(" + r + ")", 100 + r, d -> d.folded(r));
            hundreds().asks("size(" + r + ")", 7, d -> d.size(r));
        }
    }

    private static final Named[] OPEN = {
        new Named("set(?, 7)", (d, r) -> d.set(r, 7)),
        new Named("show(?, 10)", (d, r) -> d.show(r, 10)),
        new Named("work(0, ?, 1, 2)", (d, r) -> d.work(0, r, 1, 2)),
        new Named("work(1, ?, 1, 2)", (d, r) -> d.work(1, r, 1, 2)),
        new Named("work(2, ?, 1, 2)", (d, r) -> d.work(2, r, 1, 2)),
        new Named("work(0, 4, ?, 2)", (d, r) -> d.work(0, 4, r, 2)),
        new Named("work(1, 4, ?, 2)", (d, r) -> d.work(1, 4, r, 2)),
        new Named("work(2, 4, ?, 2)", (d, r) -> d.work(2, 4, r, 2)),
        new Named("work(0, 4, 1, ?)", (d, r) -> d.work(0, 4, 1, r)),
        new Named("work(1, 4, 1, ?)", (d, r) -> d.work(1, 4, 1, r)),
        new Named("work(2, 4, 1, ?)", (d, r) -> d.work(2, 4, 1, r)),
        new Named("divide(false, ?, 5, 1, 2)", (d, r) -> d.divide(false, r, 5, 1, 2)),
        new Named("divide(true, ?, 5, 1, 2)", (d, r) -> d.divide(true, r, 5, 1, 2)),
        new Named("divide(false, 4, ?, 1, 2)", (d, r) -> d.divide(false, 4, r, 1, 2)),
        new Named("divide(true, 4, ?, 1, 2)", (d, r) -> d.divide(true, 4, r, 1, 2)),
        new Named("divide(false, 4, 5, ?, 2)", (d, r) -> d.divide(false, 4, 5, r, 2)),
        new Named("divide(true, 4, 5, ?, 2)", (d, r) -> d.divide(true, 4, 5, r, 2)),
        new Named("divide(false, 4, 5, 1, ?)", (d, r) -> d.divide(false, 4, 5, 1, r)),
        new Named("divide(true, 4, 5, 1, ?)", (d, r) -> d.divide(true, 4, 5, 1, r)),
        new Named("shift(?, 1, 1)", (d, r) -> d.shift(r, 1, 1)),
        new Named("shift(?, 1, -1)", (d, r) -> d.shift(r, 1, -1)),
        new Named("shift(4, ?, 1)", (d, r) -> d.shift(4, r, 1)),
        new Named("shift(4, ?, -1)", (d, r) -> d.shift(4, r, -1)),
        new Named("bits(0, ?, 1, 2)", (d, r) -> d.bits(0, r, 1, 2)),
        new Named("bits(1, ?, 1, 2)", (d, r) -> d.bits(1, r, 1, 2)),
        new Named("bits(2, ?, 1, 2)", (d, r) -> d.bits(2, r, 1, 2)),
        new Named("bits(0, 4, ?, 2)", (d, r) -> d.bits(0, 4, r, 2)),
        new Named("bits(1, 4, ?, 2)", (d, r) -> d.bits(1, 4, r, 2)),
        new Named("bits(2, 4, ?, 2)", (d, r) -> d.bits(2, 4, r, 2)),
        new Named("bits(0, 4, 1, ?)", (d, r) -> d.bits(0, 4, 1, r)),
        new Named("bits(1, 4, 1, ?)", (d, r) -> d.bits(1, 4, 1, r)),
        new Named("bits(2, 4, 1, ?)", (d, r) -> d.bits(2, 4, 1, r)),
        new Named("power(?, 1, 3)", (d, r) -> d.power(r, 1, 3)),
        new Named("power(4, ?, 3)", (d, r) -> d.power(4, r, 3)),
        new Named("power(4, ?, 0)", (d, r) -> d.power(4, r, 0)),
        new Named("residue(?, 1, 2, 3)", (d, r) -> d.residue(r, 1, 2, 3)),
        new Named("residue(4, ?, 2, 3)", (d, r) -> d.residue(4, r, 2, 3)),
        new Named("residue(4, 1, ?, 3)", (d, r) -> d.residue(4, 1, r, 3)),
        new Named("residue(4, 1, 2, ?)", (d, r) -> d.residue(4, 1, 2, r)),
        new Named("compare(?, 1)", (d, r) -> d.compare(r, 1)),
        new Named("compare(1, ?)", (d, r) -> d.compare(1, r)),
        new Named("small(?)", (d, r) -> d.small(r)),
        new Named("low(?)", (d, r) -> d.low(r)),
        new Named("folded(?)", (d, r) -> d.folded(r)),
        new Named("size(?)", (d, r) -> d.size(r))};

    private static void noOtherRegister() {
        for (int no : Check.NO_REGISTERS) {
            Run run = hundreds().type("12");
            for (Named open : OPEN) {
                run.refuses(open.name + " with register " + no, Check.ILLEGAL, d -> open.call.on(d, no));
            }
            run.refusesRead("read(" + no + ", 10)", Check.ILLEGAL, d -> d.read(no, 10));
        }
    }

    /** v in register 1 of a run, by calls that do not tell its BITS: a sum of 2 to the power of n and something. */
    private static Run twoToAnd(int n, long more, boolean below) {
        Run run = new Run().then(d -> d.set(0, below ? -1 : 1), d -> d.shift(1, 0, n));
        return more == 0 ? run : run.then(d -> d.set(0, below ? -more : more), d -> d.work(0, 1, 1, 0));
    }

    private static void bitsWithoutSign() {
        for (int n = 0; n < 2048; n++) {
            twoToAnd(n, 0, false).gives("size of 2 ** " + n, n + 1, d -> d.size(1));
            twoToAnd(n, 0, true).gives("size of -(2 ** " + n + ")", n + 1, d -> d.size(1));
        }
        for (BigInteger v : new BigInteger[] {LEAST, big(Long.MIN_VALUE), big(-1), big(-255), big(-256)}) {
            toldInEveryWay(v);
        }
    }

    private static void bitsWithoutZerosInFront() {
        for (int n = 1; n < 2048; n++) {
            twoToAnd(n, -1, false).gives("size of 2 ** " + n + " - 1", n, d -> d.size(1));
            twoToAnd(n, -1, true).gives("size of -(2 ** " + n + " - 1)", n, d -> d.size(1));
        }
        for (BigInteger v : new BigInteger[] {MOST, big(Long.MAX_VALUE), ONE, big(255), big(256)}) {
            toldInEveryWay(v);
        }
    }

    private static void zeroHasNoBits() {
        toldInEveryWay(BigInteger.ZERO);
        Run.with(MOST).gives("work(1, 1, 1, 1)", 0, d -> d.work(1, 1, 1, 1)).gives("size(1)", 0, d -> d.size(1));
        Run.with(LEAST).gives("bits(2, 1, 1, 1)", 0, d -> d.bits(2, 1, 1, 1)).gives("size(1)", 0, d -> d.size(1));
        new Run().type("-0").gives("read(1, 10)", 0, d -> d.read(1, 10)).gives("size(1)", 0, d -> d.size(1));
    }

    /** By each call that tells BITS. */
    private static void toldInEveryWay(BigInteger v) {
        int bits = Check.bits(v);
        Run.with(v).asks("size(1) of " + v, bits, d -> d.size(1));
        Run.with(v).makes("set(1, 0) of " + v, bits, 1, BigInteger.ZERO, d -> d.set(1, 0));
        Run.with(v).makes("shift(4, 1, 0) of " + v, bits, 4, v, d -> d.shift(4, 1, 0));
        Run.with(v).makes("power(4, 1, 1) of " + v, bits, 4, v, d -> d.power(4, 1, 1));
        new Run().type(v.toString(36)).gives("read of " + v, bits, d -> d.read(1, 36));
    }

    /** A call on registers 1 and 2 with the target left open: another register, or one of them. */
    private static void result(String name, BigInteger v, long want, Open call, BigInteger... sources) {
        for (int k : new int[] {4, 1, 2}) {
            int to = k;
            if (Check.fits(v)) {
                Run.with(sources).makes(name + " to " + to, want, to, v, d -> call.on(d, to));
            } else {
                Run.with(sources).refuses(name + " to " + to, Check.ARITHMETIC, d -> call.on(d, to));
            }
        }
    }

    private static void sum(BigInteger a, BigInteger b) {
        BigInteger v = a.add(b);
        result(a + " + " + b, v, v.signum(), (d, to) -> d.work(0, to, 1, 2), a, b);
    }

    private static void tooGreatSum() {
        sum(MOST, ONE);
        sum(MOST, big(0));
        sum(MOST.subtract(ONE), ONE);
        sum(LEAST, big(-1));
        sum(LEAST.add(ONE), big(-1));
        sum(MOST, MOST);
        sum(LEAST, LEAST);
        sum(MOST, LEAST);
        sum(Check.twoTo(2047), Check.twoTo(2047));
        sum(Check.twoTo(2047), Check.twoTo(2047).subtract(ONE));
        sum(Check.twoTo(2047).negate(), Check.twoTo(2047).negate());
    }

    private static void difference(BigInteger a, BigInteger b) {
        BigInteger v = a.subtract(b);
        result(a + " - " + b, v, v.signum(), (d, to) -> d.work(1, to, 1, 2), a, b);
    }

    private static void tooGreatDifference() {
        difference(MOST, big(-1));
        difference(MOST.subtract(ONE), big(-1));
        difference(LEAST, ONE);
        difference(LEAST.add(ONE), ONE);
        difference(MOST, LEAST);
        difference(LEAST, MOST);
        difference(MOST, MOST);
        difference(big(0), LEAST);
        difference(big(-1), MOST);
    }

    private static void product(BigInteger a, BigInteger b) {
        BigInteger v = a.multiply(b);
        result(a + " * " + b, v, v.signum(), (d, to) -> d.work(2, to, 1, 2), a, b);
    }

    private static void tooGreatProduct() {
        product(Check.twoTo(1024), Check.twoTo(1024));
        product(Check.twoTo(1024).negate(), Check.twoTo(1024));
        product(Check.twoTo(1024), Check.twoTo(1023));
        // Together 2 ** 2048 - 1: the greatest product that fits.
        product(Check.twoTo(1024).subtract(ONE), Check.twoTo(1024).add(ONE));
        product(Check.twoTo(1024).subtract(ONE), Check.twoTo(1024).add(ONE).negate());
        product(MOST, ONE);
        product(MOST, big(-1));
        product(MOST, big(2));
        product(LEAST, big(-2));
        product(MOST, big(0));
        product(MOST, MOST);
        product(LEAST, MOST);
    }

    private static void shifted(BigInteger a, int by) {
        BigInteger v = a.shiftLeft(by);
        result(a + " shifted by " + by, v, Check.bits(v), (d, to) -> d.shift(to, 1, by), a);
    }

    private static void tooGreatShift() {
        for (int by : new int[] {2046, 2047, 2048, 2049, 3999, 4000}) {
            shifted(ONE, by);
            shifted(big(-1), by);
            shifted(big(2), by);
            shifted(big(0), by);
        }
        shifted(big(3), 2046);
        shifted(big(-3), 2047);
        for (BigInteger v : new BigInteger[] {MOST, LEAST}) {
            shifted(v, 0);
            shifted(v, 1);
            shifted(v, -1);
            shifted(v, 4000);
        }
        shifted(MOST.shiftRight(31), 31);
        shifted(MOST.shiftRight(31), 32);
    }

    private static void joined(int what, BigInteger a, BigInteger b) {
        BigInteger v = what == 0 ? a.and(b) : what == 1 ? a.or(b) : a.xor(b);
        result("bits(" + what + ") of " + a + " and " + b, v, v.signum(), (d, to) -> d.bits(what, to, 1, 2), a, b);
    }

    private static void tooGreatBits() {
        // -(2 ** 2048) has 2049 BITS, although neither source has more than 2048.
        joined(0, LEAST, big(-2));
        joined(0, big(-2), LEAST);
        joined(0, LEAST, LEAST.add(ONE));
        joined(0, LEAST, LEAST);
        joined(0, LEAST, big(-1));
        joined(0, LEAST, big(-3));
        joined(2, MOST, big(-1));
        joined(2, big(-1), MOST);
        joined(2, MOST.subtract(ONE), big(-1));
        joined(2, MOST, LEAST);
        joined(2, LEAST, ONE);
        joined(2, LEAST, big(2));
        for (BigInteger a : new BigInteger[] {MOST, LEAST, big(-1)}) {
            for (BigInteger b : new BigInteger[] {MOST, LEAST, big(-2)}) {
                joined(1, a, b);
            }
        }
    }

    private static void raised(BigInteger a, int n) {
        BigInteger v = a.pow(n);
        result(a + " to the power of " + n, v, Check.bits(v), (d, to) -> d.power(to, 1, n), a);
    }

    private static void tooGreatPower() {
        for (int n : new int[] {2047, 2048, 2049, 4095, 4096}) {
            raised(big(2), n);
            raised(big(-2), n);
        }
        raised(big(3), 1292);
        raised(big(3), 1293);
        raised(big(-3), 1292);
        raised(big(-3), 1293);
        raised(Check.twoTo(1024).subtract(ONE), 2);
        raised(Check.twoTo(1024), 2);
        for (BigInteger v : new BigInteger[] {MOST, LEAST}) {
            raised(v, 0);
            raised(v, 1);
            raised(v, 2);
            raised(v, 3);
        }
        for (BigInteger v : new BigInteger[] {big(2), big(-2), big(3), MOST, LEAST, Check.twoTo(1024)}) {
            Run.with(v).refuses(v + " to the greatest power", Check.ARITHMETIC, d -> d.power(4, 1, Integer.MAX_VALUE));
        }
    }

    private static void tooGreatRead() {
        for (int k = 2; k <= 36; k++) {
            int base = k;
            for (String sign : new String[] {"", "-"}) {
                String name = "read in base " + base;
                BigInteger fits = new BigInteger(sign + MOST);
                filledBy(sign + MOST.toString(base)).gives(name, 2048, d -> d.read(5, base)).holds(name, 5, fits).lineIs("");
                filledBy(sign + MOST.add(ONE).toString(base)).refusesRead(name, Check.ARITHMETIC, d -> d.read(5, base));
            }
        }
        filledBy("z".repeat(2100)).refusesRead("read of 2100 z", Check.ARITHMETIC, d -> d.read(5, 36));
        filledBy("-" + "9".repeat(2099)).refusesRead("read of - and 2099 9", Check.ARITHMETIC, d -> d.read(5, 10));
        filledBy("1".repeat(2100)).refusesRead("read of 2100 1", Check.ARITHMETIC, d -> d.read(5, 2));
        filledBy("0".repeat(51) + "1" + "0".repeat(2048)).refusesRead("read of 2 ** 2048", Check.ARITHMETIC, d -> d.read(5, 2));
        filledBy("0".repeat(52) + "1" + "0".repeat(2047)).gives("read of 2 ** 2047", 2048, d -> d.read(5, 2));
    }

    private static Run filledBy(String text) {
        return hundreds().type(text);
    }

    /** Quotients, rests and residues are never greater than what they come from. */
    private static void neverTooGreat() {
        BigInteger[] greats = {MOST, LEAST, MOST.subtract(ONE), LEAST.add(ONE), Check.twoTo(2047), Check.twoTo(2047).negate()};
        BigInteger[] others = {ONE, big(-1), big(2), big(-2), MOST, LEAST, Check.twoTo(2047)};
        for (BigInteger a : greats) {
            for (BigInteger b : others) {
                BigInteger[] both = a.divideAndRemainder(b);
                boolean step = both[1].signum() * b.signum() < 0;
                BigInteger rest = step ? both[1].add(b) : both[1];
                String name = a + " / " + b;
                Run.with(a, b).gives(name, both[1].signum(), d -> d.divide(false, 4, 5, 1, 2))
                    .holds(name, 4, both[0]).holds(name, 5, both[1]);
                Run.with(a, b).gives(name + " down", rest.signum(), d -> d.divide(true, 4, 5, 1, 2))
                    .holds(name, 4, step ? both[0].subtract(ONE) : both[0]).holds(name, 5, rest);
                Run.with(a, ONE, b).makes(a + " left by " + b, rest.signum(), 4, rest, d -> d.residue(4, 1, 2, 3));
            }
        }
    }

    private static final String EIGHT = "01234567";

    private static void lineOf2100Letters() {
        Run run = new Run();
        for (int k = 1; k <= 262; k++) {
            run.gives("line up to " + 8 * k, 8 * k, d -> d.line(Check.octets(EIGHT)));
        }
        run.gives("line up to 2100", 2100, d -> d.line(Check.octets("wxyz")));
        run.gives("letter(2099)", 'z', d -> d.letter(2099));
        run.refuses("letter(2100)", Check.BOUNDS, d -> d.letter(2100));
        run.refuses("line up to 2101", Check.BOUNDS, d -> d.line('a'));
        run.lineIs(EIGHT.repeat(262) + "wxyz");
    }

    private static void illegalBeforeFullLine() {
        Run run = new Run().type("x".repeat(2100));
        run.refuses("no letter for a full line", Check.ILLEGAL, d -> d.line(0));
        run.refuses("a 0 in front for a full line", Check.ILLEGAL, d -> d.line(Check.octets("\0abc")));
        run.refuses("no letters for a full line", Check.ILLEGAL, d -> d.line(31));
        run.refuses("seven letters and one that is none for a full line", Check.ILLEGAL, d -> d.line(Check.octets("abcdefg\n")));
        run.refuses("a letter for a full line", Check.BOUNDS, d -> d.line('a'));
    }

    private static void illegalBeforeTooGreat() {
        for (int no : Check.NO_REGISTERS) {
            Run run = Run.with(MOST, MOST, LEAST, big(-1));
            run.refuses("work(0), too great, to " + no, Check.ILLEGAL, d -> d.work(0, no, 1, 2));
            run.refuses("work(1), too great, to " + no, Check.ILLEGAL, d -> d.work(1, no, 1, 3));
            run.refuses("work(2), too great, to " + no, Check.ILLEGAL, d -> d.work(2, no, 1, 2));
            run.refuses("shift, too great, to " + no, Check.ILLEGAL, d -> d.shift(no, 1, 1));
            run.refuses("bits, too great, to " + no, Check.ILLEGAL, d -> d.bits(2, no, 1, 4));
            run.refuses("power, too great, to " + no, Check.ILLEGAL, d -> d.power(no, 1, 2));
            filledBy("z".repeat(500)).refusesRead("read, too great, to " + no, Check.ILLEGAL, d -> d.read(no, 36));
        }
        Run run = Run.with(MOST, MOST, LEAST, big(-1));
        for (int what : new int[] {-1, 3}) {
            run.refuses("work(" + what + "), too great", Check.ILLEGAL, d -> d.work(what, 4, 1, 2));
            run.refuses("bits(" + what + "), too great", Check.ILLEGAL, d -> d.bits(what, 4, 1, 4));
        }
        run.refuses("shift by 4001, too great", Check.ILLEGAL, d -> d.shift(4, 1, 4001));
        run.refuses("power by -1 of the greatest", Check.ILLEGAL, d -> d.power(4, 1, -1));
        for (int base : new int[] {1, 37}) {
            filledBy("1".repeat(2100)).refusesRead("read, too great, in base " + base, Check.ILLEGAL, d -> d.read(5, base));
        }
        filledBy("z".repeat(2099) + "{").refusesRead("read, too great and no digit", Check.ILLEGAL, d -> d.read(5, 36));
        filledBy("z".repeat(2099) + "-").refusesRead("read, too great and a -", Check.ILLEGAL, d -> d.read(5, 36));
        filledBy("1".repeat(2099) + "2").refusesRead("read, too great and no digit of it", Check.ILLEGAL, d -> d.read(5, 2));
    }

    private static void illegalBeforeDividedByZero() {
        for (int no : Check.NO_REGISTERS) {
            Run run = Run.with(big(7), big(0), big(-2));
            run.refuses("divide by 0 to " + no, Check.ILLEGAL, d -> d.divide(false, no, 5, 1, 2));
            run.refuses("divide by 0, the rest to " + no, Check.ILLEGAL, d -> d.divide(true, 4, no, 1, 2));
            run.refuses("divide by 0 of " + no, Check.ILLEGAL, d -> d.divide(false, 4, 5, no, 2));
            run.refuses("residue by 0 to " + no, Check.ILLEGAL, d -> d.residue(no, 1, 1, 2));
            run.refuses("residue by 0 of " + no, Check.ILLEGAL, d -> d.residue(4, no, 1, 2));
            run.refuses("residue by 0, power " + no, Check.ILLEGAL, d -> d.residue(4, 1, no, 2));
            run.refuses("residue, power below 0, by " + no, Check.ILLEGAL, d -> d.residue(4, 1, 3, no));
        }
        Run run = Run.with(big(7), big(0), big(-2));
        run.refuses("divide by 0, to is rest", Check.ILLEGAL, d -> d.divide(false, 4, 4, 1, 2));
        run.refuses("divide down by 0, to is rest", Check.ILLEGAL, d -> d.divide(true, 4, 4, 1, 2));
        run.refuses("residue by 0, power below 0", Check.ILLEGAL, d -> d.residue(4, 1, 3, 2));
    }

    private static void thrownCallsLeaveNoTrace() {
        leavesNoTrace(Check.ILLEGAL, d -> d.set(16, 5), d -> d.line(0), d -> d.line(Check.octets("ab\u007f")),
            d -> d.show(-1, 10), d -> d.show(1, 37), d -> d.work(3, 1, 1, 1), d -> d.work(0, 16, 4, 5),
            d -> d.divide(false, 3, 3, 1, 2), d -> d.divide(true, 4, 16, 1, 2), d -> d.shift(1, 1, -4001), d -> d.shift(16, 4, 1),
            d -> d.bits(3, 1, 2, 3), d -> d.bits(0, 16, 2, 3), d -> d.power(1, 2, -1), d -> d.power(16, 4, 2),
            d -> d.residue(1, 2, 3, 1), d -> d.residue(1, 2, 16, 3), d -> d.compare(0, 16), d -> d.small(16), d -> d.low(16),
            d -> d.folded(-1), d -> d.size(16));
        leavesNoTrace(Check.ARITHMETIC, d -> d.work(0, 1, 1, 2), d -> d.work(1, 2, 3, 1), d -> d.work(2, 3, 1, 3),
            d -> d.divide(true, 1, 2, 3, 0), d -> d.divide(false, 2, 3, 1, 0), d -> d.shift(1, 2, 1), d -> d.shift(3, 3, 4000),
            d -> d.bits(0, 3, 3, 5), d -> d.bits(2, 1, 2, 4), d -> d.power(1, 1, 2), d -> d.power(2, 5, 2048),
            d -> d.residue(1, 2, 6, 0), d -> d.small(1), d -> d.small(3));
        leavesNoTrace(Check.BOUNDS, d -> d.letter(-1), d -> d.letter(5), d -> d.letter(2099), d -> d.letter(2100));
    }

    /** Behind each call come some that would meet a trace of it. */
    private static void leavesNoTrace(Class<? extends RuntimeException> want, Run.Call... calls) {
        for (int k = 0; k < calls.length; k++) {
            LimbDesk desk = new LimbDesk();
            LimbDesk other = new LimbDesk();
            traceable(desk);
            traceable(other);
            Check.due("what call " + k + " of these does", Run.answer(desk, calls[k]), want.getSimpleName());
            sameAnswers(desk, other);
        }
    }

    /** 0; the most twice; the least; -1; -2; 6; and a line. */
    private static void traceable(LimbDesk desk) {
        Run.answer(desk, d -> d.set(4, 1));
        Run.answer(desk, d -> d.shift(1, 4, 2047));
        Run.answer(desk, d -> d.work(1, 2, 1, 4));
        Run.answer(desk, d -> d.work(0, 1, 1, 2));
        Run.answer(desk, d -> d.shift(2, 1, 0));
        Run.answer(desk, d -> d.work(1, 3, 0, 1));
        Run.answer(desk, d -> d.set(4, -1));
        Run.answer(desk, d -> d.set(5, -2));
        Run.answer(desk, d -> d.set(6, 6));
        Run.answer(desk, d -> d.line(Check.octets("-12ab")));
    }

    private static void sameAnswers(LimbDesk desk, LimbDesk other) {
        Run.Call[] questions = {d -> d.letter(0), d -> d.letter(4), d -> d.letter(5), d -> d.size(1), d -> d.size(2), d -> d.size(3),
            d -> d.folded(1), d -> d.folded(2), d -> d.folded(3), d -> d.small(0), d -> d.small(4), d -> d.small(5), d -> d.small(6),
            d -> d.compare(1, 2), d -> d.compare(2, 3), d -> d.line(Check.octets("cd")), d -> d.read(7, 16), d -> d.small(7),
            d -> d.work(0, 8, 4, 5), d -> d.small(8), d -> d.work(2, 8, 5, 6), d -> d.small(8), d -> d.divide(true, 8, 9, 1, 3),
            d -> d.small(8), d -> d.small(9), d -> d.divide(true, 8, 9, 6, 5), d -> d.small(8), d -> d.small(9),
            d -> d.shift(8, 4, 9), d -> d.small(8), d -> d.bits(0, 8, 1, 5), d -> d.folded(8), d -> d.power(8, 5, 9), d -> d.small(8),
            d -> d.residue(8, 5, 6, 3), d -> d.folded(8), d -> d.show(6, 2), d -> d.letter(0), d -> d.letter(2), d -> d.letter(3)};
        for (int k = 0; k < questions.length; k++) {
            Check.due("answer " + k + " behind a call that throws", Run.answer(desk, questions[k]), Run.answer(other, questions[k]));
        }
    }

    private static void all512CallsAreAnswered() {
        Run counted = new Run();
        for (int k = 0; k < Run.MOST_CALLS; k++) {
            int v = k;
            counted.gives("call " + (k + 1) + ", set", k == 0 ? 0 : Check.bits(big(k - 1)), d -> d.set(9, v));
        }
        Run mixed = new Run().then(d -> d.set(0, 1), d -> d.set(1, -32));
        BigInteger v = ONE;
        for (int k = 3; k <= Run.MOST_CALLS; k++) {
            BigInteger more = v.multiply(big(-32));
            if (Check.fits(more)) {
                v = more;
                mixed.gives("call " + k + ", work", v.signum(), d -> d.work(2, 0, 0, 1));
            } else {
                v = v.shiftRight(1011);
                mixed.gives("call " + k + ", shift", Check.bits(v), d -> d.shift(0, 0, -1011));
            }
        }
    }
}
