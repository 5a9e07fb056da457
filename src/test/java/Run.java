import java.math.BigInteger;
import java.util.ArrayList;
import java.util.List;

/**
 * A run of calls on a new object. What they left is asked of other objects on which the same calls
 * are made again: so asking changes nothing, and no object gets more than the 512 calls it is for.
 */
final class Run {
    static final int MOST_CALLS = 512;

    interface Call {
        long on(LimbDesk desk);
    }

    private final List<Call> calls = new ArrayList<>();
    private final LimbDesk desk = new LimbDesk();
    private LimbDesk twin;
    private int asked;

    Run() {
    }

    /** The same calls once more. */
    Run(Run before) {
        for (Call call : before.calls) {
            make(call);
        }
    }

    private String make(Call call) {
        if (calls.size() == MOST_CALLS) {
            Check.complain("this test makes more calls than an object is for");
        }
        calls.add(call);
        twin = null;
        return answer(desk, call);
    }

    /** What the call answers, or the name of what it throws. */
    static String answer(LimbDesk desk, Call call) {
        try {
            return Long.toString(call.on(desk));
        } catch (RuntimeException e) {
            return e.getClass().getSimpleName();
        }
    }

    private String ask(Call question) {
        if (twin == null || calls.size() + asked >= MOST_CALLS) {
            twin = new LimbDesk();
            asked = 0;
            for (Call call : calls) {
                answer(twin, call);
            }
        }
        asked++;
        return answer(twin, question);
    }

    /** Calls whose answers do not matter here. */
    Run then(Call... more) {
        for (Call call : more) {
            String got = make(call);
            if (got.endsWith("Exception")) {
                Check.complain("a call that this test needs throws " + got);
            }
        }
        return this;
    }

    Run type(String text) {
        for (int k = 0; k < text.length(); k += 8) {
            long w = Check.octets(text.substring(k, Math.min(k + 8, text.length())));
            then(d -> d.line(w));
        }
        return this;
    }

    /** Only while the line is empty. */
    Run put(int r, BigInteger v) {
        if (v.bitLength() < 64) {
            return then(d -> d.set(r, v.longValue()));
        }
        return type(v.toString(36)).then(d -> d.read(r, 36));
    }

    /**
     * All registers are 0 and the line is empty, as in a new object: but each kind of call has been
     * made before, with great numbers, and what it left over must not be met any more.
     */
    static Run used() {
        Run run = new Run().then(d -> d.set(0, 1), d -> d.shift(1, 0, 2047), d -> d.work(1, 2, 1, 0), d -> d.work(0, 1, 1, 2),
            d -> d.set(3, -7), d -> d.divide(false, 4, 5, 1, 3), d -> d.divide(true, 4, 5, 1, 3), d -> d.bits(2, 5, 4, 1),
            d -> d.shift(5, 4, -1), d -> d.power(5, 1, 1), d -> d.show(4, 2), d -> d.read(5, 2), d -> d.residue(5, 2, 0, 4));
        run.make(d -> d.work(2, 5, 1, 1));
        for (int k = 0; k < 6; k++) {
            int r = k;
            run.then(d -> d.set(r, 0));
        }
        return run;
    }

    /** A run with these in registers 1, 2 and so on, something else in all others, and a line. */
    static Run with(BigInteger... values) {
        Run run = used();
        for (int r = 0; r < 16; r++) {
            run.put(r, r > 0 && r <= values.length ? values[r - 1] : Check.big(1000 + r));
        }
        return run.type("- a line");
    }

    Run gives(String name, long want, Call call) {
        Check.due(name, make(call), Long.toString(want));
        return this;
    }

    /** The call must change nothing. */
    Run asks(String name, long want, Call call) {
        String before = state();
        gives(name, want, call);
        Check.due("the state after " + name, state(), before);
        return this;
    }

    /** The call must throw just this and change nothing. */
    Run refuses(String name, Class<? extends RuntimeException> want, Call call) {
        String before = state();
        throwsOnly(name, want, call);
        Check.due("the state after " + name, state(), before);
        return this;
    }

    /** The call must throw just this and change nothing but that the line is empty. */
    Run refusesRead(String name, Class<? extends RuntimeException> want, Call call) {
        String before = registers();
        throwsOnly(name, want, call);
        Check.due("the registers after " + name, registers(), before);
        return lineIs("");
    }

    private void throwsOnly(String name, Class<? extends RuntimeException> want, Call call) {
        Check.due("what " + name + " does", make(call), want.getSimpleName());
    }

    /** The call must make v of register to, and change nothing else. */
    Run makes(String name, long want, int to, BigInteger v, Call call) {
        String before = registersBut(to);
        String line = line();
        gives(name, want, call);
        Check.due("what else is there after " + name, registersBut(to), before);
        holds(name, to, v);
        return lineIs(line);
    }

    Run holds(String name, int r, BigInteger want) {
        Check.due("register " + r + " after " + name, register(r).toString(), want.toString());
        return this;
    }

    Run lineIs(String want) {
        Check.due("the line", "[" + line() + "]", "[" + want + "]");
        return this;
    }

    BigInteger register(int r) {
        return new BigInteger(new Run(this).then(d -> d.show(r, 36)).line(), 36);
    }

    String line() {
        StringBuilder text = new StringBuilder();
        for (int k = 0; k < 2200; k++) {
            int at = k;
            String letter = ask(d -> d.letter(at));
            if (letter.endsWith("Exception")) {
                return text.toString();
            }
            text.append((char) Integer.parseInt(letter));
        }
        return text.append(" and more").toString();
    }

    String registers() {
        return registersBut(-1);
    }

    private String registersBut(int left) {
        StringBuilder text = new StringBuilder();
        for (int k = 0; k < 16; k++) {
            int r = k;
            if (r != left) {
                text.append(ask(d -> d.folded(r))).append('/').append(ask(d -> d.low(r))).append('/');
                text.append(ask(d -> d.size(r))).append(' ');
            }
        }
        return text.toString();
    }

    String state() {
        return registers() + "[" + line() + "]";
    }
}
