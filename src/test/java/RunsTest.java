import java.math.BigInteger;
import java.util.Arrays;

/**
 * Runs of calls of all kinds, right and wrong ones, against a model that counts with BigInteger.
 * The runs are the same each time: their choices come from a row of numbers worked out here.
 */
public final class RunsTest {
    private static final int RUNS = 3000;
    /** At the end of a run, so many questions are asked about what is there. */
    private static final int QUESTIONS = 3 * 16 + 50;
    private static final BigInteger PRIME = Check.twoTo(61).subtract(Check.ONE);
    private static final long[] EDGES = {0, 1, -1, 2, -2, 10, Integer.MAX_VALUE, Integer.MIN_VALUE, 1L << 31, 1L << 32,
        (1L << 62) - 1, 1L << 62, Long.MAX_VALUE, Long.MIN_VALUE, (1L << 61) - 1, 1 - (1L << 61)};
    private static final String DIGITS = "0123456789abcdefghijklmnopqrstuvwxyz";
    private static final int KINDS = 16;

    private final LimbDesk desk = new LimbDesk();
    private final BigInteger[] registers = new BigInteger[16];
    private final StringBuilder line = new StringBuilder();
    private final int run;
    private long choice;
    private int calls;

    private RunsTest(int run) {
        this.run = run;
        choice = run * 0x9E3779B97F4A7C15L + 1;
        Arrays.fill(registers, BigInteger.ZERO);
    }

    public static void main(String[] args) {
        for (int run = 1; run <= RUNS; run++) {
            new RunsTest(run).go();
        }
        Check.finish("RunsTest");
    }

    private void go() {
        int length = 1 + below(Run.MOST_CALLS - QUESTIONS);
        while (calls < length) {
            step(below(KINDS), length - calls);
        }
        for (int k = 0; k < 16; k++) {
            int r = k;
            due("folded(" + r + ")", registers[r].remainder(PRIME).toString(), d -> d.folded(r));
            due("low(" + r + ")", Long.toString(registers[r].longValue()), d -> d.low(r));
            due("size(" + r + ")", Integer.toString(bits(registers[r])), d -> d.size(r));
        }
        letter(line.length());
        for (int k = 1; k < 50; k++) {
            letter(line.length() < 50 ? k - 1 : below(line.length()));
        }
        if (calls > Run.MOST_CALLS) {
            Check.complain("run " + run + " makes more calls than an object is for");
        }
    }

    private long next() {
        choice ^= choice << 13;
        choice ^= choice >>> 7;
        choice ^= choice << 17;
        return choice * 0x2545F4914F6CDD1DL;
    }

    private int below(int bound) {
        return (int) Long.remainderUnsigned(next() >>> 11, bound);
    }

    /** Few different ones, so that calls meet each other's results; now and then none. */
    private int register() {
        int chance = below(100);
        return chance == 0 ? -1 : chance == 1 ? 16 : chance < 60 ? below(4) : below(16);
    }

    private int base() {
        int chance = below(50);
        return chance == 0 ? 1 : chance == 1 ? 37 : 2 + below(35);
    }

    private long value() {
        int chance = below(3);
        return chance == 0 ? EDGES[below(EDGES.length)] : chance == 1 ? below(200) - 100 : next() >> below(64);
    }

    private void step(int kind, int room) {
        switch (kind) {
            case 0 -> set(register(), value());
            case 1 -> line(below(8) == 0 ? next() : Check.octets(digits(1 + below(8), base())));
            case 2 -> read(register(), base());
            case 3 -> show(register(), base());
            case 4 -> letter(below(10) == 0 ? below(2200) - 50 : below(line.length() + 1));
            case 5, 6 -> work(kindOf(), register(), register(), register());
            case 7, 8 -> divide(below(2) == 0, register(), register(), register(), register());
            case 9 -> shift(register(), register(), below(3) == 0 ? below(8010) - 4005 : below(400) - 200);
            case 10 -> bitwise(kindOf(), register(), register(), register());
            case 11 -> power(register(), register(), below(3) == 0 ? below(2100) - 4 : below(20));
            case 12 -> residue(register(), register(), register(), register());
            case 13 -> compare(register(), register());
            case 14 -> askOne(below(4), register());
            default -> typeNumber(register(), room);
        }
    }

    private int kindOf() {
        int chance = below(60);
        return chance == 0 ? -1 : chance == 1 ? 3 : below(3);
    }

    private String digits(int count, int base) {
        StringBuilder text = new StringBuilder();
        for (int k = 0; k < count; k++) {
            char digit = DIGITS.charAt(below(Math.min(36, Math.max(2, base))));
            text.append(below(4) == 0 ? Character.toUpperCase(digit) : digit);
        }
        return text.toString();
    }

    /** A long number, come by the line as a user would bring it, if there is room for all its calls. */
    private void typeNumber(int r, int room) {
        int base = 2 + below(35);
        String text = (below(2) == 0 ? "-" : "") + digits(1 + below(below(10) == 0 ? 2000 : 200), base);
        if (text.length() / 8 + 3 > room) {
            set(r, value());
            return;
        }
        read(0, 99);
        for (int k = 0; k < text.length(); k += 8) {
            line(Check.octets(text.substring(k, Math.min(text.length(), k + 8))));
        }
        read(r, base);
    }

    /** What is due: an answer, or the name of an exception. */
    private void due(String call, String want, Run.Call asked) {
        calls++;
        Check.due("run " + run + ", call " + calls + ", " + call, Run.answer(desk, asked), want);
    }

    private static final String ILLEGAL = "IllegalArgumentException";
    private static final String ARITHMETIC = "ArithmeticException";
    private static final String BOUNDS = "IndexOutOfBoundsException";

    private static boolean there(int... all) {
        for (int r : all) {
            if (r < 0 || r > 15) {
                return false;
            }
        }
        return true;
    }

    private static int bits(BigInteger v) {
        return v.abs().bitLength();
    }

    private static boolean isBase(int base) {
        return base >= 2 && base <= 36;
    }

    private String keepSign(int to, BigInteger v) {
        return keep(to, v, v.signum());
    }

    private String keepBits(int to, BigInteger v) {
        return keep(to, v, bits(v));
    }

    private String keep(int to, BigInteger v, int answer) {
        if (bits(v) > 2048) {
            return ARITHMETIC;
        }
        registers[to] = v;
        return Integer.toString(answer);
    }

    private void set(int r, long v) {
        String want = ILLEGAL;
        if (there(r)) {
            want = Integer.toString(bits(registers[r]));
            registers[r] = BigInteger.valueOf(v);
        }
        due("set(" + r + ", " + v + ")", want, d -> d.set(r, v));
    }

    private void line(long w) {
        StringBuilder more = new StringBuilder();
        boolean right = true;
        for (int k = 0; k < 8; k++) {
            int octet = (int) (w >>> (8 * k)) & 255;
            if (octet == 0) {
                break;
            }
            right &= octet >= 32 && octet <= 126;
            more.append((char) octet);
        }
        String want;
        if (!right || more.length() == 0) {
            want = ILLEGAL;
        } else if (line.length() + more.length() > 2100) {
            want = BOUNDS;
        } else {
            want = Integer.toString(line.append(more).length());
        }
        due("line(" + w + ")", want, d -> d.line(w));
    }

    private void read(int r, int base) {
        String text = line.toString();
        line.setLength(0);
        String want = ILLEGAL;
        if (there(r) && isBase(base)) {
            try {
                if (!text.startsWith("+")) {
                    want = keepBits(r, new BigInteger(text, base));
                }
            } catch (NumberFormatException e) {
                want = ILLEGAL;
            }
        }
        due("read(" + r + ", " + base + ") of " + text, want, d -> d.read(r, base));
    }

    private void show(int r, int base) {
        String want = ILLEGAL;
        if (there(r) && isBase(base)) {
            line.setLength(0);
            line.append(registers[r].toString(base));
            want = Integer.toString(line.length());
        }
        due("show(" + r + ", " + base + ")", want, d -> d.show(r, base));
    }

    private void letter(int k) {
        String want = k < 0 || k >= line.length() ? BOUNDS : Integer.toString(line.charAt(k));
        due("letter(" + k + ")", want, d -> d.letter(k));
    }

    private void work(int what, int to, int a, int b) {
        String want = ILLEGAL;
        if (there(to, a, b) && what >= 0 && what <= 2) {
            BigInteger x = registers[a];
            BigInteger y = registers[b];
            want = keepSign(to, what == 0 ? x.add(y) : what == 1 ? x.subtract(y) : x.multiply(y));
        }
        due("work(" + what + ", " + to + ", " + a + ", " + b + ")", want, d -> d.work(what, to, a, b));
    }

    private void divide(boolean down, int to, int rest, int a, int b) {
        String want = ILLEGAL;
        if (there(to, rest, a, b) && to != rest) {
            want = registers[b].signum() == 0 ? ARITHMETIC : divided(down, to, rest, registers[a], registers[b]);
        }
        due("divide(" + down + ", " + to + ", " + rest + ", " + a + ", " + b + ")", want, d -> d.divide(down, to, rest, a, b));
    }

    private String divided(boolean down, int to, int rest, BigInteger x, BigInteger y) {
        BigInteger[] both = x.divideAndRemainder(y);
        boolean step = down && both[1].signum() * y.signum() < 0;
        keepSign(to, step ? both[0].subtract(Check.ONE) : both[0]);
        return keepSign(rest, step ? both[1].add(y) : both[1]);
    }

    private void shift(int to, int a, int by) {
        String want = there(to, a) && by >= -4000 && by <= 4000 ? keepBits(to, registers[a].shiftLeft(by)) : ILLEGAL;
        due("shift(" + to + ", " + a + ", " + by + ")", want, d -> d.shift(to, a, by));
    }

    private void bitwise(int what, int to, int a, int b) {
        String want = ILLEGAL;
        if (there(to, a, b) && what >= 0 && what <= 2) {
            BigInteger x = registers[a];
            BigInteger y = registers[b];
            want = keepSign(to, what == 0 ? x.and(y) : what == 1 ? x.or(y) : x.xor(y));
        }
        due("bits(" + what + ", " + to + ", " + a + ", " + b + ")", want, d -> d.bits(what, to, a, b));
    }

    private void power(int to, int a, int n) {
        String want = ILLEGAL;
        if (there(to, a) && n >= 0) {
            boolean tooBig = (long) (bits(registers[a]) - 1) * n >= 2048;
            want = tooBig ? ARITHMETIC : keepBits(to, registers[a].pow(n));
        }
        due("power(" + to + ", " + a + ", " + n + ")", want, d -> d.power(to, a, n));
    }

    private void residue(int to, int a, int b, int m) {
        String want = ILLEGAL;
        if (there(to, a, b, m) && registers[b].signum() >= 0) {
            BigInteger by = registers[m];
            if (by.signum() == 0) {
                want = ARITHMETIC;
            } else {
                BigInteger left = registers[a].modPow(registers[b], by.abs());
                want = keepSign(to, left.signum() != 0 && by.signum() < 0 ? left.add(by) : left);
            }
        }
        due("residue(" + to + ", " + a + ", " + b + ", " + m + ")", want, d -> d.residue(to, a, b, m));
    }

    private void compare(int a, int b) {
        String want = there(a, b) ? Integer.toString(registers[a].compareTo(registers[b])) : ILLEGAL;
        due("compare(" + a + ", " + b + ")", want, d -> d.compare(a, b));
    }

    private void askOne(int what, int r) {
        BigInteger v = there(r) ? registers[r] : BigInteger.ZERO;
        String small = v.bitLength() > 63 ? ARITHMETIC : v.toString();
        switch (what) {
            case 0 -> due("small(" + r + ")", there(r) ? small : ILLEGAL, d -> d.small(r));
            case 1 -> due("low(" + r + ")", there(r) ? Long.toString(v.longValue()) : ILLEGAL, d -> d.low(r));
            case 2 -> due("folded(" + r + ")", there(r) ? v.remainder(PRIME).toString() : ILLEGAL, d -> d.folded(r));
            default -> due("size(" + r + ")", there(r) ? Integer.toString(bits(v)) : ILLEGAL, d -> d.size(r));
        }
    }
}
