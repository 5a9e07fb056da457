/**
 * Sixteen registers that hold whole numbers of up to 2048 bits, and a line of letters between them
 * and texts. Every result is worked out in a scratch number first and copied into its register only
 * when it fits: so a call that throws leaves the registers alone, and a register may be both a
 * source and the target of one call.
 */
public final class LimbDesk {

    private static final int REGISTERS = 16;
    private static final int MOST_BITS = 2048;
    private static final int MOST_SHIFT = 4000;
    private static final int MOST_LETTERS = 2100;
    private static final int LEAST_BASE = 2;
    private static final int MOST_BASE = 36;

    // 31 bits and not 32: a product of two limbs and two carries is never below 0 as a long then,
    // so that plain long arithmetic does for all of them.
    private static final int LIMB_BITS = 31;
    private static final int LIMB_MASK = 0x7FFFFFFF;
    // 67 limbs have 2077 bits: room for the carry of a sum and for the sign that bits() needs.
    private static final int LIMBS = 67;
    // A product of two registers, and the limb more that a division needs.
    private static final int WIDE_LIMBS = 2 * LIMBS + 1;

    private final Whole[] registers;
    private final Letters letters;
    private final Divider divider;
    private final Whole outcome;
    private final Whole product;
    private final Whole factor;

    public LimbDesk() {
        registers = new Whole[REGISTERS];
        for (int r = 0; r < REGISTERS; r++) {
            registers[r] = new Whole(LIMBS);
        }
        letters = new Letters();
        divider = new Divider();
        outcome = new Whole(WIDE_LIMBS);
        product = new Whole(WIDE_LIMBS);
        factor = new Whole(LIMBS);
    }

    public int set(int r, long v) throws IllegalArgumentException {
        needRegister(r);
        int had = registers[r].countBits();
        registers[r].takeLong(v);
        return had;
    }

    public int line(long w) throws IllegalArgumentException, IndexOutOfBoundsException {
        int more = Letters.countIn(w);
        if (more == 0) {
            throw new IllegalArgumentException("no letters, or one that is not 32..126");
        }
        if (letters.count + more > MOST_LETTERS) {
            throw new IndexOutOfBoundsException("the line would be too long");
        }
        letters.append(w, more);
        return letters.count;
    }

    public int read(int r, int base) throws IllegalArgumentException, ArithmeticException {
        boolean right = isRegister(r) && isBase(base) && letters.areNumber(base);
        if (right) {
            letters.writeTo(outcome, base);
        }
        // Before anything is thrown: the line is empty afterwards, whatever comes.
        letters.count = 0;
        if (!right) {
            throw new IllegalArgumentException("no such register or base, or no number");
        }
        keep(outcome, r);
        return outcome.countBits();
    }

    public int show(int r, int base) throws IllegalArgumentException {
        needRegister(r);
        if (!isBase(base)) {
            throw new IllegalArgumentException("no such base");
        }
        outcome.takeCopy(registers[r]);
        letters.takeNumber(outcome, base);
        return letters.count;
    }

    public int letter(int k) throws IndexOutOfBoundsException {
        if (k < 0 || k >= letters.count) {
            throw new IndexOutOfBoundsException("no such letter");
        }
        return letters.row[k];
    }

    public int work(int what, int to, int a, int b) throws IllegalArgumentException, ArithmeticException {
        needKind(what);
        needRegisters(to, a, b);
        Whole left = registers[a];
        Whole right = registers[b];
        if (what == 0) {
            outcome.takeSum(left, right, right.below);
        } else if (what == 1) {
            outcome.takeSum(left, right, !right.below);
        } else {
            outcome.takeProduct(left, right);
        }
        keep(outcome, to);
        return outcome.sign();
    }

    public int divide(boolean down, int to, int rest, int a, int b) throws IllegalArgumentException, ArithmeticException {
        needRegisters(to, a, b);
        needRegister(rest);
        if (to == rest) {
            throw new IllegalArgumentException("two results for one register");
        }
        Whole right = registers[b];
        if (right.sign() == 0) {
            throw new ArithmeticException("divided by 0");
        }
        divider.cutSigned(registers[a], right);
        if (down) {
            divider.roundDown(right);
        }
        keep(divider.quotient, to);
        keep(divider.rest, rest);
        return divider.rest.sign();
    }

    public int shift(int to, int a, int by) throws IllegalArgumentException, ArithmeticException {
        needRegister(to);
        needRegister(a);
        if (by < -MOST_SHIFT || by > MOST_SHIFT) {
            throw new IllegalArgumentException("shifted too far");
        }
        Whole number = registers[a];
        if (by > 0) {
            // Looked at beforehand, for a shift by 4000 does not fit into the scratch number.
            if (number.sign() != 0 && number.countBits() + by > MOST_BITS) {
                throw new ArithmeticException("too many bits");
            }
            outcome.takeRaised(number, by);
        } else {
            outcome.takeLowered(number, -by);
        }
        keep(outcome, to);
        return outcome.countBits();
    }

    public int bits(int what, int to, int a, int b) throws IllegalArgumentException, ArithmeticException {
        needKind(what);
        needRegisters(to, a, b);
        outcome.takeBits(what, registers[a], registers[b]);
        keep(outcome, to);
        return outcome.sign();
    }

    public int power(int to, int a, int n) throws IllegalArgumentException, ArithmeticException {
        needRegister(to);
        needRegister(a);
        if (n < 0) {
            throw new IllegalArgumentException("a power below 0");
        }
        outcome.takeLong(1);
        for (int k = 30; k >= 0; k--) {
            multiplyOutcome(outcome);
            if (((n >>> k) & 1) == 1) {
                multiplyOutcome(registers[a]);
            }
        }
        keep(outcome, to);
        return outcome.countBits();
    }

    public int residue(int to, int a, int b, int m) throws IllegalArgumentException, ArithmeticException {
        needRegisters(to, a, b);
        needRegister(m);
        if (registers[b].sign() < 0) {
            throw new IllegalArgumentException("a power below 0");
        }
        if (registers[m].sign() == 0) {
            throw new ArithmeticException("divided by 0");
        }
        raiseWithin(registers[a], registers[b], registers[m]);
        outcome.setBelow(registers[a].below && registers[b].hasBit(0));
        if (outcome.sign() * registers[m].sign() < 0) {
            outcome.takeSum(outcome, registers[m], registers[m].below);
        }
        keep(outcome, to);
        return outcome.sign();
    }

    public int compare(int a, int b) throws IllegalArgumentException {
        needRegister(a);
        needRegister(b);
        return registers[a].orderTo(registers[b]);
    }

    public long small(int r) throws IllegalArgumentException, ArithmeticException {
        needRegister(r);
        if (!registers[r].fitsLong()) {
            throw new ArithmeticException("too many bits for a long");
        }
        return registers[r].lowestBits();
    }

    public long low(int r) throws IllegalArgumentException {
        needRegister(r);
        return registers[r].lowestBits();
    }

    public long folded(int r) throws IllegalArgumentException {
        needRegister(r);
        return registers[r].foldedBits();
    }

    public int size(int r) throws IllegalArgumentException {
        needRegister(r);
        return registers[r].countBits();
    }

    private static boolean isRegister(int r) {
        return r >= 0 && r < REGISTERS;
    }

    private static boolean isBase(int base) {
        return base >= LEAST_BASE && base <= MOST_BASE;
    }

    private static void needRegister(int r) {
        if (!isRegister(r)) {
            throw new IllegalArgumentException("no such register");
        }
    }

    private static void needRegisters(int r, int s, int t) {
        needRegister(r);
        needRegister(s);
        needRegister(t);
    }

    private static void needKind(int what) {
        if (what < 0 || what > 2) {
            throw new IllegalArgumentException("no such kind of work");
        }
    }

    private static void needFit(Whole number) {
        if (number.countBits() > MOST_BITS) {
            throw new ArithmeticException("too many bits");
        }
    }

    private void keep(Whole number, int to) {
        needFit(number);
        registers[to].takeCopy(number);
    }

    // Refusing on the way is right: no power on the way is greater than the one asked for.
    private void multiplyOutcome(Whole by) {
        product.takeProduct(outcome, by);
        needFit(product);
        outcome.takeCopy(product);
    }

    // Without signs: these are easier to put right once, at the end.
    private void raiseWithin(Whole a, Whole b, Whole m) {
        divider.cut(a, m);
        factor.takeCopy(divider.rest);
        product.takeLong(1);
        reduceProduct(m);
        for (int k = b.countBits() - 1; k >= 0; k--) {
            product.takeProduct(outcome, outcome);
            reduceProduct(m);
            if (b.hasBit(k)) {
                product.takeProduct(outcome, factor);
                reduceProduct(m);
            }
        }
    }

    private void reduceProduct(Whole m) {
        divider.cut(product, m);
        outcome.takeCopy(divider.rest);
    }

    /**
     * A whole number: its limbs without the sign, the lowest first, and the sign. The limb
     * used - 1 is never 0, and 0 is never below; limbs from used on hold anything.
     */
    private static final class Whole {
        final int[] limbs;
        int used;
        boolean below;

        Whole(int room) {
            limbs = new int[room];
        }

        int sign() {
            return used == 0 ? 0 : below ? -1 : 1;
        }

        int limbAt(int i) {
            return i < used ? limbs[i] : 0;
        }

        int countBits() {
            return used == 0 ? 0 : (used - 1) * LIMB_BITS + bitsIn(limbs[used - 1]);
        }

        static int bitsIn(int limb) {
            int count = 0;
            while (count < LIMB_BITS && (limb >>> count) != 0) {
                count++;
            }
            return count;
        }

        boolean hasBit(int k) {
            return ((limbAt(k / LIMB_BITS) >>> (k % LIMB_BITS)) & 1) == 1;
        }

        void trim(int written) {
            used = written;
            while (used > 0 && limbs[used - 1] == 0) {
                used--;
            }
            setBelow(below);
        }

        void setBelow(boolean wanted) {
            below = wanted && used > 0;
        }

        void takeLong(long v) {
            // -v of the lowest long is itself, and that is right when its bits are read unsigned.
            long magnitude = v < 0 ? -v : v;
            limbs[0] = (int) (magnitude & LIMB_MASK);
            limbs[1] = (int) ((magnitude >>> LIMB_BITS) & LIMB_MASK);
            limbs[2] = (int) (magnitude >>> (2 * LIMB_BITS));
            below = v < 0;
            trim(3);
        }

        void takeCopy(Whole other) {
            System.arraycopy(other.limbs, 0, limbs, 0, other.used);
            used = other.used;
            below = other.below;
        }

        boolean fitsLong() {
            // Of 64 bits only the lowest long does: what is lower still wraps round to above 0.
            return countBits() < 64 || (below && countBits() == 64 && lowestBits() < 0);
        }

        long lowestBits() {
            long magnitude = limbAt(0) | ((long) limbAt(1) << LIMB_BITS) | ((long) limbAt(2) << (2 * LIMB_BITS));
            return below ? -magnitude : magnitude;
        }

        long foldedBits() {
            long prime = (1L << 61) - 1;
            long left = 0;
            for (int i = used - 1; i >= 0; i--) {
                // 2 to the power of 61 leaves 1: bits shifted out above come back in below.
                left = ((left << LIMB_BITS) & prime) | (left >>> (61 - LIMB_BITS));
                left += limbs[i];
                if (left >= prime) {
                    left -= prime;
                }
            }
            return below ? -left : left;
        }

        int orderTo(Whole other) {
            if (sign() != other.sign()) {
                return sign() < other.sign() ? -1 : 1;
            }
            return below ? other.orderOfSizes(this) : orderOfSizes(other);
        }

        int orderOfSizes(Whole other) {
            if (used != other.used) {
                return used < other.used ? -1 : 1;
            }
            for (int i = used - 1; i >= 0; i--) {
                if (limbs[i] != other.limbs[i]) {
                    return limbs[i] < other.limbs[i] ? -1 : 1;
                }
            }
            return 0;
        }

        // The sign of b comes apart from b, so that a difference is a sum, too.
        void takeSum(Whole a, Whole b, boolean bBelow) {
            boolean aBelow = a.below;
            if (aBelow == bBelow) {
                addSizes(a, b);
                setBelow(aBelow);
            } else if (a.orderOfSizes(b) >= 0) {
                subtractSizes(a, b);
                setBelow(aBelow);
            } else {
                subtractSizes(b, a);
                setBelow(bBelow);
            }
        }

        private void addSizes(Whole a, Whole b) {
            int count = Math.max(a.used, b.used);
            long carry = 0;
            for (int i = 0; i < count; i++) {
                long sum = (long) a.limbAt(i) + b.limbAt(i) + carry;
                limbs[i] = (int) (sum & LIMB_MASK);
                carry = sum >>> LIMB_BITS;
            }
            limbs[count] = (int) carry;
            trim(count + 1);
        }

        private void subtractSizes(Whole greater, Whole less) {
            int count = greater.used;
            int borrow = 0;
            for (int i = 0; i < count; i++) {
                int difference = greater.limbs[i] - less.limbAt(i) - borrow;
                limbs[i] = difference & LIMB_MASK;
                borrow = difference < 0 ? 1 : 0;
            }
            trim(count);
        }

        void growByOne() {
            growBy(1, 1);
        }

        // Both numbers are limbs, so there is one limb more at the most.
        void growBy(long times, long plus) {
            long carry = plus;
            for (int i = 0; i < used; i++) {
                long grown = limbs[i] * times + carry;
                limbs[i] = (int) (grown & LIMB_MASK);
                carry = grown >>> LIMB_BITS;
            }
            limbs[used] = (int) carry;
            trim(used + 1);
        }

        int cutBy(int divisor) {
            long left = 0;
            for (int i = used - 1; i >= 0; i--) {
                long part = (left << LIMB_BITS) | limbs[i];
                limbs[i] = (int) (part / divisor);
                left = part % divisor;
            }
            trim(used);
            return (int) left;
        }

        void takeProduct(Whole a, Whole b) {
            int count = a.used + b.used;
            for (int i = 0; i < count; i++) {
                limbs[i] = 0;
            }
            for (int i = 0; i < a.used; i++) {
                addRow(a.limbs[i], b, i);
            }
            trim(count);
            setBelow(a.below != b.below);
        }

        private void addRow(long times, Whole b, int start) {
            long carry = 0;
            for (int i = 0; i < b.used; i++) {
                long sum = times * b.limbs[i] + limbs[start + i] + carry;
                limbs[start + i] = (int) (sum & LIMB_MASK);
                carry = sum >>> LIMB_BITS;
            }
            limbs[start + b.used] = (int) carry;
        }

        void takeRaised(Whole a, int by) {
            int whole = a.used == 0 ? 0 : by / LIMB_BITS;
            for (int i = 0; i < whole; i++) {
                limbs[i] = 0;
            }
            a.raiseInto(limbs, whole, by % LIMB_BITS);
            trim(whole + a.used + 1);
            setBelow(a.below);
        }

        void raiseInto(int[] row, int start, int lift) {
            long carry = 0;
            for (int i = 0; i < used; i++) {
                long raised = ((long) limbs[i] << lift) | carry;
                row[start + i] = (int) (raised & LIMB_MASK);
                carry = raised >>> LIMB_BITS;
            }
            row[start + used] = (int) carry;
        }

        void takeLowered(Whole a, int by) {
            int whole = by / LIMB_BITS;
            int drop = by % LIMB_BITS;
            int count = Math.max(a.used - whole, 0);
            for (int i = 0; i < count; i++) {
                long pair = ((long) a.limbAt(whole + i + 1) << LIMB_BITS) | a.limbAt(whole + i);
                limbs[i] = (int) ((pair >>> drop) & LIMB_MASK);
            }
            trim(count);
            // What is cut off below 0 was cut towards 0, and down is the other way.
            if (a.below && a.hasOnesUnder(whole, drop)) {
                growByOne();
            }
            setBelow(a.below);
        }

        private boolean hasOnesUnder(int whole, int drop) {
            int first = lowestLimb();
            return first < whole || (first == whole && (limbs[first] & ((1 << drop) - 1)) != 0);
        }

        private int lowestLimb() {
            int i = 0;
            while (i < used - 1 && limbs[i] == 0) {
                i++;
            }
            return i;
        }

        // This number must be neither a nor b: its limbs are written before theirs are all read.
        void takeBits(int what, Whole a, Whole b) {
            int lowestA = a.lowestLimb();
            int lowestB = b.lowestLimb();
            for (int i = 0; i < LIMBS; i++) {
                limbs[i] = joined(what, a.endlessLimb(i, lowestA), b.endlessLimb(i, lowestB));
            }
            used = LIMBS;
            below = joined(what, a.below ? 1 : 0, b.below ? 1 : 0) == 1;
            // What makes endless bits of a number below 0 makes a number of them, too.
            int lowest = lowestLimb();
            for (int i = 0; i < LIMBS; i++) {
                limbs[i] = endlessLimb(i, lowest);
            }
            trim(LIMBS);
        }

        private static int joined(int what, int x, int y) {
            return what == 0 ? x & y : what == 1 ? x | y : x ^ y;
        }

        // Below 0, bits are turned over and 1 is added: that carry ends in the lowest limb not 0.
        private int endlessLimb(int i, int lowest) {
            if (!below) {
                return limbAt(i);
            }
            return (i <= lowest ? -limbAt(i) : ~limbAt(i)) & LIMB_MASK;
        }
    }

    /** Long division by Knuth's algorithm D, with the rows that it needs. */
    private static final class Divider {
        final Whole quotient;
        final Whole rest;
        private final int[] dividend;
        private final int[] divisor;

        Divider() {
            quotient = new Whole(WIDE_LIMBS);
            rest = new Whole(WIDE_LIMBS);
            dividend = new int[WIDE_LIMBS];
            divisor = new int[LIMBS + 1];
        }

        void cutSigned(Whole a, Whole b) {
            cut(a, b);
            quotient.setBelow(a.below != b.below);
            rest.setBelow(a.below);
        }

        void roundDown(Whole b) {
            if (rest.sign() * b.sign() < 0) {
                rest.takeSum(rest, b, b.below);
                quotient.growByOne();
                quotient.setBelow(true);
            }
        }

        // Without signs; b is not 0.
        void cut(Whole a, Whole b) {
            quotient.takeLong(0);
            if (a.orderOfSizes(b) < 0) {
                rest.takeCopy(a);
                rest.setBelow(false);
                return;
            }
            int count = b.used;
            int steps = a.used - count + 1;
            // The guesses are good only if the divisor's highest limb has its highest bit.
            int lift = LIMB_BITS - Whole.bitsIn(b.limbs[count - 1]);
            b.raiseInto(divisor, 0, lift);
            a.raiseInto(dividend, 0, lift);
            for (int j = steps - 1; j >= 0; j--) {
                quotient.limbs[j] = digitAt(j, count);
            }
            quotient.trim(steps);
            lowerRest(count, lift);
        }

        private int digitAt(int j, int count) {
            long digit = guessAt(j, count);
            if (takeAway(digit, j, count)) {
                giveBack(j, count);
                digit--;
            }
            return (int) digit;
        }

        // From the highest limbs alone: the digit itself or, seldom, 1 more.
        private long guessAt(int j, int count) {
            long first = divisor[count - 1];
            long second = count > 1 ? divisor[count - 2] : 0;
            long third = count > 1 ? dividend[j + count - 2] : 0;
            long top = ((long) dividend[j + count] << LIMB_BITS) | dividend[j + count - 1];
            long digit = Math.min(top / first, LIMB_MASK);
            long left = top - digit * first;
            for (int k = 0; k < 2 && left <= LIMB_MASK && digit * second > ((left << LIMB_BITS) | third); k++) {
                digit--;
                left += first;
            }
            return digit;
        }

        private boolean takeAway(long digit, int j, int count) {
            long borrow = 0;
            for (int i = 0; i < count; i++) {
                long left = dividend[j + i] - digit * divisor[i] - borrow;
                dividend[j + i] = (int) (left & LIMB_MASK);
                borrow = -(left >> LIMB_BITS);
            }
            long left = dividend[j + count] - borrow;
            dividend[j + count] = (int) (left & LIMB_MASK);
            return left < 0;
        }

        private void giveBack(int j, int count) {
            long carry = 0;
            for (int i = 0; i < count; i++) {
                long sum = (long) dividend[j + i] + divisor[i] + carry;
                dividend[j + i] = (int) (sum & LIMB_MASK);
                carry = sum >>> LIMB_BITS;
            }
            dividend[j + count] = (int) ((dividend[j + count] + carry) & LIMB_MASK);
        }

        private void lowerRest(int count, int lift) {
            for (int i = 0; i < count; i++) {
                long pair = ((long) dividend[i + 1] << LIMB_BITS) | dividend[i];
                rest.limbs[i] = (int) ((pair >>> lift) & LIMB_MASK);
            }
            rest.below = false;
            rest.trim(count);
        }
    }

    /** The line. Letters behind count are left over, and written again before they are read. */
    private static final class Letters {
        private static final String DIGITS = "0123456789abcdefghijklmnopqrstuvwxyz";
        private static final int LOWEST = 32;
        private static final int HIGHEST = 126;

        final byte[] row;
        int count;

        Letters() {
            row = new byte[MOST_LETTERS];
        }

        // 0 if there is none, and also if one of them is no letter.
        static int countIn(long w) {
            for (int k = 0; k < 8; k++) {
                int octet = octetOf(w, k);
                if (octet == 0) {
                    return k;
                }
                if (octet < LOWEST || octet > HIGHEST) {
                    return 0;
                }
            }
            return 8;
        }

        private static int octetOf(long w, int k) {
            return (int) (w >>> (8 * k)) & 255;
        }

        void append(long w, int more) {
            for (int k = 0; k < more; k++) {
                put(octetOf(w, k));
            }
        }

        private void put(int letter) {
            if (count < MOST_LETTERS) {
                row[count] = (byte) letter;
                count++;
            }
        }

        private boolean haveMinus() {
            return count > 0 && row[0] == '-';
        }

        boolean areNumber(int base) {
            int start = haveMinus() ? 1 : 0;
            for (int i = start; i < count; i++) {
                if (digitOf(row[i]) >= base) {
                    return false;
                }
            }
            return start < count;
        }

        // What is no digit is as great as no base allows.
        private static int digitOf(int letter) {
            if (letter >= '0' && letter <= '9') {
                return letter - '0';
            }
            if (letter >= 'a' && letter <= 'z') {
                return letter - 'a' + 10;
            }
            if (letter >= 'A' && letter <= 'Z') {
                return letter - 'A' + 10;
            }
            return MOST_BASE;
        }

        // As many digits at once as a limb holds. Stops where the number is too great for any
        // register: what it is then does not matter, and it has no room to grow on.
        void writeTo(Whole number, int base) {
            number.takeLong(0);
            long scale = 1;
            long part = 0;
            for (int i = haveMinus() ? 1 : 0; i < count && number.used <= LIMBS; i++) {
                scale *= base;
                part = part * base + digitOf(row[i]);
                if (scale * base > LIMB_MASK || i == count - 1) {
                    number.growBy(scale, part);
                    scale = 1;
                    part = 0;
                }
            }
            number.setBelow(haveMinus());
        }

        // Uses the number up. Digits come the lowest first, so the line is turned round at the end.
        void takeNumber(Whole number, int base) {
            boolean below = number.below;
            int digits = digitsInLimb(base);
            int scale = powerOf(base, digits);
            count = 0;
            for (int k = 0; k < MOST_LETTERS && number.used > 0; k++) {
                int part = number.cutBy(scale);
                putDigits(part, base, number.used > 0 ? digits : 0);
            }
            if (count == 0) {
                put('0');
            }
            if (below) {
                put('-');
            }
            turnRound();
        }

        private static int digitsInLimb(int base) {
            long scale = base;
            int digits = 1;
            while (digits < LIMB_BITS && scale * base <= LIMB_MASK) {
                scale *= base;
                digits++;
            }
            return digits;
        }

        private static int powerOf(int base, int digits) {
            int scale = 1;
            for (int k = 0; k < digits; k++) {
                scale *= base;
            }
            return scale;
        }

        private void putDigits(int part, int base, int least) {
            int left = part;
            for (int k = 0; k < LIMB_BITS && (k < least || left > 0); k++) {
                put(DIGITS.charAt(left % base));
                left /= base;
            }
        }

        private void turnRound() {
            for (int i = 0; i < count / 2; i++) {
                byte letter = row[i];
                row[i] = row[count - 1 - i];
                row[count - 1 - i] = letter;
            }
        }
    }
}
