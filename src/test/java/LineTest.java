import java.math.BigInteger;

/** Promises 3 to 6: the line, and what goes between it and registers. */
public final class LineTest {
    private static final int[] NO_BASES = {1, 0, -1, -10, 37, Integer.MIN_VALUE, Integer.MAX_VALUE};

    public static void main(String[] args) {
        promise3Line();
        promise3WrongLetters();
        promise3FullLine();
        promise4Read();
        promise4WrongLines();
        promise4TooManyBits();
        promise4EmptiesTheLine();
        promise5Show();
        promise6Letter();
        Check.finish("LineTest");
    }

    private static void promise3Line() {
        LimbDesk desk = new LimbDesk();
        Check.due("line of one letter", desk.line('a'), 1);
        Check.due("line of eight letters", desk.line(Check.octets("bcdefghi")), 9);
        Check.due("line of the lowest and the highest letter", desk.line(Check.octets(" ~")), 11);
        Check.due("letters behind a 0", desk.line(Check.octets("jk\0lm\0no")), 13);
        Check.due("no letters behind a 0", desk.line(Check.octets("p\0\u00ff\u0001\u007f\u0080\u001f\u00ff")), 14);
        Check.due("seven letters and a 0", desk.line(Check.octets("qrstuvw\0")), 21);
        Check.due("the line", Check.lineOf(desk), "abcdefghi ~jkpqrstuvw");
    }

    private static void promise3WrongLetters() {
        LimbDesk desk = new LimbDesk();
        desk.line('x');
        for (String text : new String[] {"", "\0a", "\0abcdefg", "\u001f", "\u007f", "\u0080", "\u00ff", "\u0001",
            "ab\u001f", "ab\u007fcd", "abcdefg\u0080", "abcdefg\u00ff", "abcdefg\u001f", "a\n\0"}) {
            long w = Check.octets(text);
            Check.refuses(desk, "line(" + w + ")", IllegalArgumentException.class, () -> desk.line(w));
        }
        Check.refuses(desk, "line(least)", IllegalArgumentException.class, () -> desk.line(Long.MIN_VALUE));
        Check.refuses(desk, "line(-1)", IllegalArgumentException.class, () -> desk.line(-1));
    }

    private static void promise3FullLine() {
        LimbDesk desk = new LimbDesk();
        for (int k = 1; k <= 262; k++) {
            Check.due("line up to " + 8 * k, desk.line(Check.octets("01234567")), 8 * k);
        }
        Check.refuses(desk, "line up to 2104", IndexOutOfBoundsException.class, () -> desk.line(Check.octets("abcdefgh")));
        Check.refuses(desk, "line up to 2101", IndexOutOfBoundsException.class, () -> desk.line(Check.octets("abcde")));
        Check.refuses(desk, "a full line, wrong letters", IllegalArgumentException.class, () -> desk.line(Check.octets("abcdefg\n")));
        Check.due("line up to 2100", desk.line(Check.octets("wxyz\0abc")), 2100);
        Check.refuses(desk, "line up to 2101", IndexOutOfBoundsException.class, () -> desk.line('a'));
        Check.refuses(desk, "no letter for a full line", IllegalArgumentException.class, () -> desk.line(0));
        Check.due("letter(2099)", desk.letter(2099), 'z');
    }

    private static void promise4Read() {
        LimbDesk desk = new LimbDesk();
        reads(desk, "0", 10, "0");
        reads(desk, "-0", 10, "0");
        reads(desk, "-000", 2, "0");
        reads(desk, "0000000000000000000000000000000007", 8, "7");
        reads(desk, "-00012", 3, "-5");
        reads(desk, "zZ", 36, "1295");
        reads(desk, "-AbCdEf", 16, "-11259375");
        reads(desk, "9", 10, "9");
        reads(desk, "aAzZ09", 36, "623136249");
        reads(desk, "2147483647", 10, "2147483647");
        reads(desk, "2147483648", 10, "2147483648");
        for (int base = 2; base <= 36; base++) {
            BigInteger v = Check.big("-98765432109876543210987654321098765432109876543210");
            reads(desk, v.toString(base), base, v.toString());
            reads(desk, v.toString(base).toUpperCase(), base, v.toString());
            reads(new LimbDesk(), Check.MOST.toString(base), base, Check.MOST.toString());
        }
        LimbDesk full = new LimbDesk();
        reads(full, "0".repeat(2099) + "1", 36, "1");
        reads(full, "-" + "0".repeat(2099), 10, "0");
        reads(full, "-" + "0".repeat(51) + "1".repeat(2048), 2, Check.MOST.negate().toString());
    }

    private static void reads(LimbDesk desk, String text, int base, String want) {
        Check.type(desk, text);
        Check.due("read of " + text + " in base " + base, desk.read(5, base), Check.big(want).abs().bitLength());
        Check.due("the line after read", Check.lineOf(desk), "");
        Check.holds(desk, "read of " + text + " in base " + base, 5, Check.big(want));
        desk.read(4, 36);
    }

    private static void promise4WrongLines() {
        LimbDesk desk = new LimbDesk();
        desk.set(5, 77);
        for (String text : new String[] {"", "-", "--1", "+1", "1-", "1 ", " 1", "1_0", "a", "1a", "5:", "5/", "@", "[", "`", "{",
            "-a", "9".repeat(2099) + "-", "9".repeat(2099) + "a"}) {
            refusesRead(desk, text, 5, 10, IllegalArgumentException.class);
        }
        for (int base = 2; base < 36; base++) {
            char above = Character.forDigit(base, 36);
            refusesRead(desk, "1" + above, 5, base, IllegalArgumentException.class);
            refusesRead(desk, "1" + Character.toUpperCase(above), 5, base, IllegalArgumentException.class);
        }
        for (String text : new String[] {"z{", "z[", "z@", "z`", "z/", "z:", "z~", "z "}) {
            refusesRead(desk, text, 5, 36, IllegalArgumentException.class);
        }
        for (int base : NO_BASES) {
            refusesRead(desk, "1", 5, base, IllegalArgumentException.class);
        }
        for (int r : new int[] {-1, 16, Integer.MIN_VALUE, Integer.MAX_VALUE}) {
            refusesRead(desk, "1", r, 10, IllegalArgumentException.class);
            refusesRead(desk, "9".repeat(2100), r, 10, IllegalArgumentException.class);
        }
    }

    /** All registers stay, but the line is empty. */
    private static void refusesRead(LimbDesk desk, String text, int r, int base, Class<? extends RuntimeException> want) {
        String before = Check.state(desk);
        Check.type(desk, text);
        Check.throwsOnly("read(" + r + ", " + base + ") of " + text, want, () -> desk.read(r, base));
        Check.due("the state after read(" + r + ", " + base + ") of " + text, Check.state(desk), before);
    }

    private static void promise4TooManyBits() {
        LimbDesk desk = new LimbDesk();
        desk.set(5, -78);
        BigInteger over = Check.MOST.add(Check.ONE);
        for (int base = 2; base <= 36; base++) {
            refusesRead(desk, over.toString(base), 5, base, ArithmeticException.class);
            refusesRead(desk, over.negate().toString(base), 5, base, ArithmeticException.class);
        }
        refusesRead(desk, "z".repeat(2100), 5, 36, ArithmeticException.class);
        refusesRead(desk, "-" + "1".repeat(2099), 5, 2, ArithmeticException.class);
        refusesRead(desk, "z".repeat(2098) + "{", 5, 36, IllegalArgumentException.class);
    }

    private static void promise4EmptiesTheLine() {
        LimbDesk desk = new LimbDesk();
        desk.line('x');
        Check.throwsOnly("read(16, 10)", IllegalArgumentException.class, () -> desk.read(16, 10));
        Check.due("line after read(16, 10)", desk.line('4'), 1);
        Check.due("read(0, 10)", desk.read(0, 10), 3);
        Check.throwsOnly("read of the empty line", IllegalArgumentException.class, () -> desk.read(0, 10));
        Check.due("small(0)", desk.small(0), 4);
    }

    private static void promise5Show() {
        LimbDesk desk = new LimbDesk();
        for (int base = 2; base <= 36; base++) {
            shows(desk, Check.big("0"), base);
            shows(desk, Check.big("-1"), base);
            shows(desk, BigInteger.valueOf(base), base);
            shows(desk, BigInteger.valueOf(base - 1).negate(), base);
            shows(desk, Check.big("-98765432109876543210987654321098765432109876543210"), base);
            shows(new LimbDesk(), Check.MOST.negate(), base);
            shows(new LimbDesk(), Check.MOST, base);
            for (int n = 1; n < 60; n++) {
                shows(new LimbDesk(), BigInteger.valueOf(base).pow(n), base);
            }
        }
        shows(desk, Check.big("35"), 36);
        Check.type(desk, "letters that go away");
        desk.set(7, 5);
        Check.due("show instead of a line", desk.show(7, 10), 1);
        Check.due("line behind what show left", desk.line('6'), 2);
        Check.due("the line", Check.lineOf(desk), "56");
        for (int base : NO_BASES) {
            Check.refuses(desk, "show(7, " + base + ")", IllegalArgumentException.class, () -> desk.show(7, base));
        }
        Check.refusesRegisters(desk, "show", r -> desk.show(r, 10));
    }

    private static void shows(LimbDesk desk, BigInteger v, int base) {
        desk.set(3, 0);
        desk.show(3, 10);
        desk.read(3, 10);
        Check.put(desk, 3, v);
        String want = v.toString(base);
        Check.due("show of " + v + " in base " + base, desk.show(3, base), want.length());
        Check.due("the line after show in base " + base, Check.lineOf(desk), want);
        desk.read(4, base);
        Check.due("what show left, read", desk.compare(3, 4), 0);
        Check.due("folded after show", desk.folded(3), desk.folded(4));
    }

    private static void promise6Letter() {
        LimbDesk desk = new LimbDesk();
        Check.refuses(desk, "letter(0)", IndexOutOfBoundsException.class, () -> desk.letter(0));
        Check.type(desk, "hello, World~ ");
        String text = "hello, World~ ";
        for (int k = 0; k < text.length(); k++) {
            Check.due("letter(" + k + ")", desk.letter(k), text.charAt(k));
        }
        for (int k : new int[] {-1, 14, 15, 2099, 2100, Integer.MAX_VALUE, Integer.MIN_VALUE}) {
            Check.refuses(desk, "letter(" + k + ")", IndexOutOfBoundsException.class, () -> desk.letter(k));
        }
    }
}
