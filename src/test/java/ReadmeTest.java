/** The examples in README.md, with what their remarks say. */
public final class ReadmeTest {
    public static void main(String[] args) {
        Check.sentence("README.md, the first example", ReadmeTest::powerAndQuotient);
        Check.sentence("README.md, the second example", ReadmeTest::textsAndBack);
        Check.finish("ReadmeTest");
    }

    private static void powerAndQuotient() {
        LimbDesk desk = new LimbDesk();
        desk.set(0, 3);
        Check.due("power", desk.power(1, 0, 100), 159);
        desk.set(2, 1000003);
        desk.divide(false, 3, 4, 1, 2);
        long rest = desk.small(4);
        Check.due("the rest", rest, Check.big(3).pow(100).mod(Check.big(1000003)).longValue());
        Check.due("the rest as told", rest, 189751);
    }

    private static void textsAndBack() {
        LimbDesk desk = new LimbDesk();
        desk.line('-' | '1' << 8 | '7' << 16);
        desk.read(0, 10);
        Check.due("register 0", desk.small(0), -17);
        desk.set(1, 5);
        desk.divide(true, 2, 3, 0, 1);
        Check.due("the quotient, rounded down", desk.small(2), -4);
        Check.due("its rest", desk.small(3), 3);
        int count = desk.show(2, 10);
        StringBuilder text = new StringBuilder();
        for (int k = 0; k < count; k++) {
            text.append((char) desk.letter(k));
        }
        Check.due("the line", text.toString(), "-4");
        desk.divide(false, 2, 3, 0, 1);
        Check.due("the quotient, cut", desk.small(2), -3);
        Check.due("the rest of that", desk.small(3), -2);
    }
}
