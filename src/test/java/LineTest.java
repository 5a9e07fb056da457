import java.math.BigInteger;

/** Promises 3 to 6, sentence by sentence: the line, and what goes between it and registers. */
public final class LineTest {
    private static final int[] NO_BASES = {1, 37, 0, -1, -2, -10, 38, 258, Integer.MIN_VALUE, Integer.MAX_VALUE};
    private static final int[] NO_LETTERS = {1, 9, 10, 31, 127, 128, 160, 254, 255};
    private static final String DIGITS = "0123456789abcdefghijklmnopqrstuvwxyz";
    private static final BigInteger MOST = Check.MOST;
    private static final BigInteger LEAST = MOST.negate();
    private static final BigInteger MIDDLE = Check.big("-98765432109876543210987654321098765432109876543210");

    public static void main(String[] args) {
        promise3();
        promise4();
        promise5();
        Check.sentence("Promise 6: Letter k of the LINE", LineTest::letters);
        Check.sentence("Promise 6: IndexOutOfBoundsException: there is none", LineTest::noLetters);
        Check.sentence("Promise 6: there is none (any more)", LineTest::lettersGoneBy);
        Check.finish("LineTest");
    }

    private static void promise3() {
        Check.sentence("Promise 3: those in the 8 octets of w, the lowest first", LineTest::lowestFirst);
        Check.sentence("Promise 3: Letters come to the LINE (behind those that it has)", LineTest::lettersCome);
        Check.sentence("Promise 3: up to the first that is 0", LineTest::upToTheFirstZero);
        Check.sentence("Promise 3: how many it has", LineTest::tellsHowMany);
        Check.sentence("Promise 3: IllegalArgumentException: the lowest is 0", LineTest::lowestIsZero);
        Check.sentence("Promise 3: or one before the first 0 is not 32..126", LineTest::noLetterBeforeZero);
        Check.sentence("Promise 3: 32..126 (are letters)", LineTest::allLetters);
        Check.sentence("Promise 3: (what is behind that 0 does not matter)", LineTest::behindTheZero);
        Check.sentence("Promise 3: IndexOutOfBoundsException: there would be more than 2100", LineTest::moreThan2100);
    }

    private static void promise4() {
        Check.sentence("Promise 4: REGISTER r is what the LINE says", LineTest::readsNumbers);
        Check.sentence("Promise 4: the LINE (empty then, whatever comes)", LineTest::emptyWhateverComes);
        Check.sentence("Promise 4: (also if r or the base is wrong)", LineTest::emptyIfWrong);
        Check.sentence("Promise 4: perhaps a -", LineTest::perhapsAMinus);
        Check.sentence("Promise 4: then digits, one at least", LineTest::oneDigitAtLeast);
        Check.sentence("Promise 4: 0-9, a-z or A-Z for 10 to 35", LineTest::allDigits);
        Check.sentence("Promise 4: (no other letter is a digit)", LineTest::noDigits);
        Check.sentence("Promise 4: below the base", LineTest::belowTheBase);
        Check.sentence("Promise 4: (zeros in front will do)", LineTest::zerosInFront);
        Check.sentence("Promise 4: (-0 is 0)", LineTest::minusZero);
        Check.sentence("Promise 4: how many BITS", LineTest::readTellsBits);
        Check.sentence("Promise 4: IllegalArgumentException: r", LineTest::readNoRegister);
        Check.sentence("Promise 4: IllegalArgumentException: a base not 2..36", LineTest::readNoBase);
        Check.sentence("Promise 4: IllegalArgumentException: another LINE", LineTest::anotherLine);
    }

    private static void promise5() {
        Check.sentence("Promise 5: The LINE is REGISTER r in a base", LineTest::showsNumbers);
        Check.sentence("Promise 5: (instead of what it was)", LineTest::insteadOfWhatItWas);
        Check.sentence("Promise 5: a - if below 0", LineTest::minusIfBelow);
        Check.sentence("Promise 5: digits, small letters", LineTest::smallLetters);
        Check.sentence("Promise 5: no zeros in front", LineTest::noZerosInFront);
        Check.sentence("Promise 5: (0: 0)", LineTest::zeroIsShown);
        Check.sentence("Promise 5: how many letters", LineTest::showTellsLetters);
        Check.sentence("Promise 5: IllegalArgumentException: r", LineTest::showNoRegister);
        Check.sentence("Promise 5: IllegalArgumentException: base not 2..36", LineTest::showNoBase);
    }

    private static BigInteger big(long v) {
        return Check.big(v);
    }

    private static long w(String text) {
        return Check.octets(text);
    }

    private static Run typed(String text) {
        return new Run().type(text);
    }

    private static void lowestFirst() {
        new Run().gives("line of abcdefgh", 8, d -> d.line(0x6867666564636261L)).lineIs("abcdefgh");
        new Run().gives("line of ab", 2, d -> d.line(0x6261L)).lineIs("ab");
        new Run().gives("line of ~", 1, d -> d.line(126)).lineIs("~");
    }

    private static void lettersCome() {
        new Run().gives("line", 3, d -> d.line(w("abc"))).gives("line", 11, d -> d.line(w("defghijk")))
            .gives("line", 12, d -> d.line(w("l"))).lineIs("abcdefghijkl");
        Run run = Run.with(MOST);
        String before = run.registers();
        run.gives("line behind a line", 10, d -> d.line(w("xy"))).lineIs("- a linexy");
        Check.due("the registers after line", run.registers(), before);
    }

    private static void upToTheFirstZero() {
        for (int k = 1; k <= 8; k++) {
            String text = "abcdefgh".substring(0, k);
            new Run().gives("line of " + text, k, d -> d.line(w(text))).lineIs(text);
            String zeros = (text + "\0\0").substring(0, Math.min(8, k + 2));
            new Run().gives("line of " + text + " and zeros", k, d -> d.line(w(zeros))).lineIs(text);
        }
        new Run().gives("letters behind the 0", 2, d -> d.line(w("ab\0cd\0ef"))).lineIs("ab");
    }

    private static void tellsHowMany() {
        Run run = new Run();
        int count = 0;
        for (int k = 0; count + k % 8 + 1 <= 2100 && k < 500; k++) {
            String text = "ABCDEFGH".substring(0, k % 8 + 1);
            count += text.length();
            run.gives("line", count, d -> d.line(w(text)));
        }
        typed("12345").then(d -> d.read(0, 10)).gives("line behind a read", 2, d -> d.line(w("ab")));
        typed("12345").then(d -> d.show(0, 10)).gives("line behind a show", 3, d -> d.line(w("ab")));
        typed("12345").refuses("line(0)", Check.ILLEGAL, d -> d.line(0)).gives("line behind none", 7, d -> d.line(w("ab")));
    }

    private static void lowestIsZero() {
        Run run = typed("x");
        for (String text : new String[] {"\0", "\0a", "\0abcdefg", "\0\0\0\0\0\0\0a", "\0\u00ff", "\0\u001f"}) {
            run.refuses("line(" + w(text) + ")", Check.ILLEGAL, d -> d.line(w(text)));
        }
        run.refuses("line(256)", Check.ILLEGAL, d -> d.line(256));
        run.refuses("line of the least", Check.ILLEGAL, d -> d.line(Long.MIN_VALUE));
        new Run().refuses("line(0) of a new object", Check.ILLEGAL, d -> d.line(0));
    }

    private static void noLetterBeforeZero() {
        for (int k = 0; k < 8; k++) {
            Run run = typed("x");
            for (int no : NO_LETTERS) {
                String last = "abcdefgh".substring(0, k) + (char) no;
                String within = last + "abcdefgh".substring(k + 1);
                run.refuses("line with " + no + " as octet " + k, Check.ILLEGAL, d -> d.line(w(last)));
                run.refuses("line with " + no + " as octet " + k + " of 8", Check.ILLEGAL, d -> d.line(w(within)));
            }
        }
        typed("x").refuses("line(-1)", Check.ILLEGAL, d -> d.line(-1));
    }

    private static void allLetters() {
        for (int k = 0; k < 8; k++) {
            Run run = new Run();
            StringBuilder text = new StringBuilder();
            for (int letter = 32; letter <= 126; letter++) {
                String octets = "abcdefgh".substring(0, k) + (char) letter + "abcdefgh".substring(k + 1);
                text.append(octets);
                run.gives("line with " + letter + " as octet " + k, text.length(), d -> d.line(w(octets)));
            }
            run.lineIs(text.toString());
        }
    }

    private static void behindTheZero() {
        for (int k = 1; k < 7; k++) {
            String text = "abcdefgh".substring(0, k);
            Run run = new Run();
            for (int no : NO_LETTERS) {
                String octets = text + "\0" + String.valueOf((char) no).repeat(7 - k);
                run.gives("line with " + no + " behind a 0", run.line().length() + k, d -> d.line(w(octets)));
            }
            run.lineIs(text.repeat(NO_LETTERS.length));
        }
        Run full = typed("x".repeat(2099));
        full.gives("one letter, and seven behind a 0, for the last place", 2100, d -> d.line(w("y\0zzzzzz"))).lineIs("x".repeat(2099) + "y");
    }

    private static void moreThan2100() {
        for (int room = 0; room < 8; room++) {
            String text = "x".repeat(2100 - room);
            for (int more = room + 1; more <= 8; more++) {
                long w = w("abcdefgh".substring(0, more));
                typed(text).refuses("line of " + more + " where " + room + " have room", Check.BOUNDS, d -> d.line(w));
            }
            if (room > 0) {
                String last = "abcdefgh".substring(0, room);
                typed(text).gives("line of the last " + room, 2100, d -> d.line(w(last))).lineIs(text + last)
                    .refuses("line of one more", Check.BOUNDS, d -> d.line('a'));
            }
        }
        typed("1".repeat(2100)).refuses("line of one more", Check.BOUNDS, d -> d.line('1'))
            .refusesRead("read behind it", Check.ARITHMETIC, d -> d.read(0, 10)).gives("line behind that", 1, d -> d.line('1'));
        // What show leaves counts, too: 2049 letters, so 51 have room.
        Run shown = new Run().put(1, LEAST).then(d -> d.show(1, 2)).type("y".repeat(48));
        shown.refuses("line of 4 behind 2097", Check.BOUNDS, d -> d.line(w("abcd"))).gives("line of 3", 2100, d -> d.line(w("abc")));
    }

    private static void reads(String text, int base, BigInteger want) {
        String name = "read of " + text + " in base " + base;
        typed(text).gives(name, Check.bits(want), d -> d.read(5, base)).holds(name, 5, want).lineIs("");
        Run.used().type(text).gives(name, Check.bits(want), d -> d.read(5, base)).holds(name, 5, want).lineIs("");
    }

    private static void readsNumbers() {
        for (int base = 2; base <= 36; base++) {
            for (BigInteger v : new BigInteger[] {big(0), big(1), big(-1), big(base), big(base - 1), big(-base), MIDDLE, MOST, LEAST}) {
                reads(v.toString(base), base, v);
                reads(v.toString(base).toUpperCase(), base, v);
            }
            for (int n = 1; n < 70; n++) {
                reads(big(base).pow(n).toString(base), base, big(base).pow(n));
                reads(big(base).pow(n).subtract(Check.ONE).toString(base), base, big(base).pow(n).subtract(Check.ONE));
            }
        }
        reads("2147483647", 10, big(Integer.MAX_VALUE));
        reads("-2147483648", 10, big(Integer.MIN_VALUE));
        reads("9223372036854775808", 10, Check.twoTo(63));
        Run over = Run.with(LEAST);
        over.then(d -> d.show(1, 10)).gives("read over its register", 2048, d -> d.read(1, 10)).holds("read", 1, LEAST);
        Run.with(LEAST).then(d -> d.show(0, 10)).gives("read of 1000 over the least", 10, d -> d.read(1, 10)).holds("read", 1, big(1000));
    }

    private static void emptyWhateverComes() {
        typed("12").gives("read", 4, d -> d.read(0, 10)).lineIs("").gives("line", 1, d -> d.line('3')).lineIs("3")
            .gives("read", 2, d -> d.read(0, 10)).holds("read", 0, big(3));
        typed("1x").refusesRead("read of 1x", Check.ILLEGAL, d -> d.read(0, 10)).gives("line", 1, d -> d.line('3')).lineIs("3");
        typed("-").refusesRead("read of -", Check.ILLEGAL, d -> d.read(0, 10)).gives("line", 1, d -> d.line('3')).lineIs("3");
        new Run().refusesRead("read of nothing", Check.ILLEGAL, d -> d.read(0, 10));
        typed("z".repeat(400)).refusesRead("read, too great", Check.ARITHMETIC, d -> d.read(0, 36))
            .refusesRead("read again", Check.ILLEGAL, d -> d.read(0, 36)).gives("line", 1, d -> d.line('3')).lineIs("3");
    }

    private static void emptyIfWrong() {
        for (int no : Check.NO_REGISTERS) {
            Run.with(MOST).refusesRead("read(" + no + ", 10)", Check.ILLEGAL, d -> d.read(no, 10));
            typed("12").refusesRead("read(" + no + ", 10)", Check.ILLEGAL, d -> d.read(no, 10)).gives("line", 1, d -> d.line('3'));
        }
        for (int base : NO_BASES) {
            Run.with(MOST).refusesRead("read(1, " + base + ")", Check.ILLEGAL, d -> d.read(1, base));
            typed("12").refusesRead("read(1, " + base + ")", Check.ILLEGAL, d -> d.read(1, base)).gives("line", 1, d -> d.line('3'));
        }
        typed("12").refusesRead("read(16, 37)", Check.ILLEGAL, d -> d.read(16, 37)).lineIs("");
        typed("x".repeat(2100)).refusesRead("read(-1, 10) of a full line", Check.ILLEGAL, d -> d.read(-1, 10))
            .gives("line", 8, d -> d.line(w("abcdefgh")));
    }

    private static void perhapsAMinus() {
        reads("12", 10, big(12));
        reads("-12", 10, big(-12));
        reads("-1", 2, big(-1));
        reads("-zz", 36, big(-1295));
        for (String text : new String[] {"--12", "12-", "1-2", "+12", "-+12", "+-12", "- 12", " -12", "-12-", "0-12", "_12", "~12"}) {
            refusesLine(text, 10);
        }
    }

    private static void refusesLine(String text, int base) {
        Run run = Run.used().put(5, big(-77)).type(text);
        run.refusesRead("read of " + text + " in base " + base, Check.ILLEGAL, d -> d.read(5, base));
    }

    private static void oneDigitAtLeast() {
        for (int base : new int[] {2, 10, 36}) {
            refusesLine("", base);
            refusesLine("-", base);
            reads("1", base, big(1));
            reads("0", base, big(0));
            reads("-1", base, big(-1));
        }
    }

    private static void allDigits() {
        for (int v = 0; v < 36; v++) {
            String digit = DIGITS.substring(v, v + 1);
            reads(digit, 36, big(v));
            reads(digit.toUpperCase(), 36, big(v));
            reads("-" + digit.toUpperCase() + digit, 36, big(-37 * v));
        }
        reads("aAzZ09", 36, Check.big("623136249"));
        reads("AbCdEf", 16, big(0xabcdef));
        reads("aBcDeF", 16, big(0xabcdef));
    }

    private static void noDigits() {
        for (int letter = 32; letter <= 126; letter++) {
            String text = String.valueOf((char) letter);
            if (DIGITS.indexOf(text.toLowerCase()) < 0) {
                refusesLine("1" + text, 36);
                refusesLine("1" + text + "1", 36);
                if (letter != '-') {
                    refusesLine(text + "1", 36);
                }
            }
        }
    }

    private static void belowTheBase() {
        for (int base = 2; base <= 36; base++) {
            String most = DIGITS.substring(base - 1, base);
            reads(most, base, big(base - 1));
            reads(most.toUpperCase() + most, base, big(base * base - 1));
            for (int v = base; v < 36; v++) {
                String none = DIGITS.substring(v, v + 1);
                refusesLine(none, base);
                refusesLine(none.toUpperCase(), base);
                refusesLine("-" + none + "1", base);
                refusesLine("1" + none.toUpperCase(), base);
                refusesLine("1" + none + "0", base);
            }
        }
    }

    private static void zerosInFront() {
        reads("007", 10, big(7));
        reads("-0000000000000000000000000012", 3, big(-5));
        reads("0".repeat(2099) + "1", 36, big(1));
        reads("-" + "0".repeat(2098) + "z", 36, big(-35));
        reads("0".repeat(52) + "1".repeat(2048), 2, MOST);
        reads("-" + "0".repeat(51) + "1".repeat(2048), 2, LEAST);
        reads("0".repeat(2100), 10, big(0));
        for (int n = 1; n < 70; n++) {
            reads("0".repeat(n) + MIDDLE.negate(), 10, MIDDLE.negate());
        }
    }

    private static void minusZero() {
        for (String text : new String[] {"-0", "-00", "-" + "0".repeat(40), "-" + "0".repeat(2099)}) {
            reads(text, 10, big(0));
            typed(text).then(d -> d.read(5, 10)).gives("compare with 0", 0, d -> d.compare(5, 0)).gives("small", 0, d -> d.small(5))
                .gives("low", 0, d -> d.low(5)).gives("folded", 0, d -> d.folded(5)).gives("shift", 0, d -> d.shift(4, 5, -1))
                .gives("bits", 0, d -> d.bits(1, 4, 5, 5)).gives("work", 0, d -> d.work(0, 4, 5, 5))
                .gives("show", 1, d -> d.show(5, 10)).lineIs("0");
        }
    }

    private static void readTellsBits() {
        for (int n = 1; n <= 2048; n += n < 70 || n > 2040 ? 1 : 61) {
            int bits = n;
            typed("1" + "0".repeat(n - 1)).gives("read of 2 ** " + (n - 1), bits, d -> d.read(0, 2));
            typed("-" + "1".repeat(n)).gives("read of -(2 ** " + n + " - 1)", bits, d -> d.read(0, 2));
            typed(Check.twoTo(n).subtract(Check.ONE).toString(36)).gives("read of 2 ** " + n + " - 1", bits, d -> d.read(0, 36));
        }
        typed("0").gives("read of 0", 0, d -> d.read(0, 10));
        // What it has now, not what it had.
        typed("7").then(d -> d.set(0, 1000)).gives("read of 7 over 1000", 3, d -> d.read(0, 10));
    }

    private static void readNoRegister() {
        for (int no : Check.NO_REGISTERS) {
            Run.with(MOST).then(d -> d.show(2, 10)).refusesRead("read(" + no + ", 10)", Check.ILLEGAL, d -> d.read(no, 10));
        }
    }

    private static void readNoBase() {
        for (int base : NO_BASES) {
            for (String text : new String[] {"0", "1", "-1", "11"}) {
                refusesLine(text, base);
            }
        }
        reads("1", 2, big(1));
        reads("z", 36, big(35));
    }

    private static void anotherLine() {
        for (String text : new String[] {" ", "1 ", " 1", "1.0", "1,000", "0x10", "1e3", "ten", "1_0", "\"1\"", "1+1",
            "9".repeat(2099) + "a", "9".repeat(2099) + " ", "-" + "9".repeat(2098) + "-", "/" + "9".repeat(2099)}) {
            refusesLine(text, 10);
        }
    }

    private static void shows(BigInteger v, int base) {
        String want = v.toString(base);
        String name = "show of " + v + " in base " + base;
        Run run = Run.used().put(3, v);
        String before = run.registers();
        run.gives(name, want.length(), d -> d.show(3, base)).lineIs(want);
        Check.due("the registers after " + name, run.registers(), before);
        run.gives("read of what show left", Check.bits(v), d -> d.read(4, base)).gives("compare with it", 0, d -> d.compare(3, 4));
    }

    private static void showsNumbers() {
        for (int base = 2; base <= 36; base++) {
            for (BigInteger v : new BigInteger[] {big(1), big(base), big(base - 1), big(Long.MAX_VALUE), MIDDLE.negate(), MOST,
                Check.twoTo(31), Check.twoTo(2047), MOST.subtract(Check.twoTo(1000))}) {
                shows(v, base);
            }
        }
    }

    private static void insteadOfWhatItWas() {
        typed("letters that go away").then(d -> d.set(7, 5)).gives("show", 1, d -> d.show(7, 10)).lineIs("5")
            .gives("line", 2, d -> d.line('6')).lineIs("56").gives("show", 3, d -> d.show(7, 2)).lineIs("101")
            .refuses("letter(3)", Check.BOUNDS, d -> d.letter(3));
        typed("x".repeat(2100)).gives("show", 1, d -> d.show(0, 10)).lineIs("0");
        typed("ab").then(d -> d.set(7, 123456)).gives("show of more letters", 6, d -> d.show(7, 10)).lineIs("123456");
        new Run().put(1, LEAST).type("y".repeat(1600)).gives("show", 2049, d -> d.show(1, 2)).lineIs("-" + "1".repeat(2048));
    }

    private static void minusIfBelow() {
        for (int base = 2; base <= 36; base++) {
            for (BigInteger v : new BigInteger[] {big(-1), big(-base), big(1 - base), big(Long.MIN_VALUE), MIDDLE, LEAST,
                Check.twoTo(31).negate(), Check.twoTo(2047).negate()}) {
                shows(v, base);
            }
        }
    }

    private static void smallLetters() {
        for (int v = 0; v < 36; v++) {
            shows(big(v), 36);
            shows(big(-v), 36);
            shows(big(36 * 36 * v + v), 36);
        }
        typed("ABCDEFXYZ").then(d -> d.read(1, 36)).gives("show", 9, d -> d.show(1, 36)).lineIs("abcdefxyz");
    }

    private static void noZerosInFront() {
        for (int base = 2; base <= 36; base++) {
            for (int n = 1; n < 70; n++) {
                shows(big(base).pow(n), base);
                shows(big(base).pow(n).subtract(Check.ONE), base);
                shows(big(base).pow(n).add(Check.ONE).negate(), base);
            }
        }
        typed("-000012").then(d -> d.read(1, 10)).gives("show", 3, d -> d.show(1, 10)).lineIs("-12");
    }

    private static void zeroIsShown() {
        for (int k = 2; k <= 36; k++) {
            int base = k;
            shows(big(0), base);
            typed("-0").then(d -> d.read(1, base)).gives("show of -0", 1, d -> d.show(1, base)).lineIs("0");
            new Run().put(1, LEAST).then(d -> d.work(1, 1, 1, 1)).gives("show of a difference 0", 1, d -> d.show(1, base)).lineIs("0");
        }
    }

    private static void showTellsLetters() {
        new Run().put(1, MOST).gives("show of the most", 2048, d -> d.show(1, 2));
        new Run().put(1, LEAST).gives("show of the least", 2049, d -> d.show(1, 2));
        new Run().put(1, LEAST).gives("show of the least", 618, d -> d.show(1, 10));
        new Run().put(1, MOST).gives("show of the most", 397, d -> d.show(1, 36));
        for (int n = 0; n < 2048; n += 31) {
            int letters = n + 1;
            int shift = n;
            new Run().then(d -> d.set(0, 1), d -> d.shift(1, 0, shift)).gives("show of 2 ** " + n, letters, d -> d.show(1, 2));
            new Run().then(d -> d.set(0, -1), d -> d.shift(1, 0, shift)).gives("show of -(2 ** " + n + ")", letters + 1, d -> d.show(1, 2));
        }
    }

    private static void showNoRegister() {
        for (int no : Check.NO_REGISTERS) {
            Run.with(MOST).refuses("show(" + no + ", 10)", Check.ILLEGAL, d -> d.show(no, 10));
        }
        new Run().refuses("show(16, 10) of an empty line", Check.ILLEGAL, d -> d.show(16, 10));
    }

    private static void showNoBase() {
        for (int base : NO_BASES) {
            Run.with(MOST).refuses("show(1, " + base + ")", Check.ILLEGAL, d -> d.show(1, base));
            Run.with(MOST).refuses("show(16, " + base + ")", Check.ILLEGAL, d -> d.show(16, base));
            new Run().refuses("show of 0 in base " + base, Check.ILLEGAL, d -> d.show(0, base));
        }
        shows(big(-5), 2);
        shows(big(-36), 36);
    }

    private static void letters() {
        String text = "hello, World~ {[(0-9)]}";
        Run run = typed(text);
        for (int k = 0; k < text.length(); k++) {
            int at = k;
            run.asks("letter(" + k + ")", text.charAt(k), d -> d.letter(at));
        }
        Run full = typed("01234567".repeat(262) + "wxyz");
        full.asks("letter(0)", '0', d -> d.letter(0)).asks("letter(8)", '0', d -> d.letter(8)).asks("letter(2095)", '7', d -> d.letter(2095))
            .asks("letter(2096)", 'w', d -> d.letter(2096)).asks("letter(2099)", 'z', d -> d.letter(2099));
        new Run().put(1, big(-250)).then(d -> d.show(1, 16)).asks("letter(0)", '-', d -> d.letter(0))
            .asks("letter(1)", 'f', d -> d.letter(1)).asks("letter(2)", 'a', d -> d.letter(2));
    }

    private static void noLetters() {
        for (int k : new int[] {-1, -2, 2099, 2100, 2101, Integer.MAX_VALUE, Integer.MIN_VALUE}) {
            new Run().refuses("letter(" + k + ") of an empty line", Check.BOUNDS, d -> d.letter(k));
            typed("hello").refuses("letter(" + k + ") of 5", Check.BOUNDS, d -> d.letter(k));
        }
        new Run().refuses("letter(0) of an empty line", Check.BOUNDS, d -> d.letter(0));
        typed("hello").refuses("letter(5) of 5", Check.BOUNDS, d -> d.letter(5)).asks("letter(4) of 5", 'o', d -> d.letter(4));
        typed("x".repeat(2100)).refuses("letter(2100) of 2100", Check.BOUNDS, d -> d.letter(2100))
            .refuses("letter(-1) of 2100", Check.BOUNDS, d -> d.letter(-1));
    }

    private static void lettersGoneBy() {
        typed("12345").then(d -> d.read(0, 10)).refuses("letter(0) after read", Check.BOUNDS, d -> d.letter(0));
        typed("12345").refusesRead("read(16, 10)", Check.ILLEGAL, d -> d.read(16, 10)).refuses("letter(0)", Check.BOUNDS, d -> d.letter(0));
        typed("12345").then(d -> d.show(0, 10)).refuses("letter(1) after show", Check.BOUNDS, d -> d.letter(1));
        typed("x".repeat(2096)).refuses("line", Check.BOUNDS, d -> d.line(w("abcde"))).refuses("letter(2096)", Check.BOUNDS, d -> d.letter(2096));
        typed("x").refuses("line", Check.ILLEGAL, d -> d.line(w("ab\n"))).refuses("letter(1)", Check.BOUNDS, d -> d.letter(1));
    }
}
