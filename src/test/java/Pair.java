import java.math.BigInteger;
import java.util.NoSuchElementException;

/** One KateDesk and one PlainDesk that get the same calls; every answer that differs is printed and counted. */
final class Pair {
    static final int MOST_CALLS = 512;
    /** The calls that seeWhole makes at the most: before it an object has so many fewer. */
    static final int CALLS_TO_SEE = 375;
    static final int[] NO_SCALARS = outside(0, 31);
    static final int[] NO_POINTS = outside(0, 11);
    /** What a furnished pair holds: a scalar that is 0, a point that is nothing, and so many powers. */
    static final int ZERO = 20;
    static final int NOTHING = 6;
    static final int POWERS = 5;
    private static int wrong = 0;
    private static int asked = 0;

    final String name;
    final KateDesk desk = new KateDesk();
    final PlainDesk plain = new PlainDesk();
    private int calls = 0;

    Pair(String name) {
        this.name = name;
    }

    /** The two numbers next to a range, a far one that a mask might take for one inside, and the farthest. */
    static int[] outside(int least, int most) {
        return new int[] {least - 1, most + 1, most + 257, Integer.MIN_VALUE, Integer.MAX_VALUE};
    }

    /**
     * A pair in which all things hold something, no two of them the same: what a call changes that
     * should change nothing, is seen.
     */
    static Pair furnished(String name) {
        Pair x = new Pair(name);
        x.call("set", 0, 1000003);
        for (int a = 1; a < 32; a++) {
            if (a != ZERO) {
                x.call("power", a, 0, Long.MAX_VALUE - 977L * a);
            }
        }
        x.call("join", 1, 0, 0, 0);
        for (int p = 1; p < 12; p++) {
            if (p != NOTHING) {
                x.call("times", p, p, 0);
            }
        }
        x.call("setup", 12, POWERS);
        x.call("bytes", 3, 1);
        x.call("feed", 5, 0x1122334455L);
        return x;
    }

    int calls() {
        return calls;
    }

    /** Whether so many calls more leave room for seeWhole. */
    boolean hasRoomFor(int more) {
        return calls + more + CALLS_TO_SEE <= MOST_CALLS;
    }

    static void due(String what, String got, String want) {
        asked++;
        if (!got.equals(want)) {
            wrong++;
            System.out.println(what + " answered " + got + ", due is " + want);
        }
    }

    /** Ends the test: with exit code 1 if an answer was wrong, or if nothing was asked. */
    static void end() {
        System.out.println(asked + " answers, " + wrong + " wrong");
        if (wrong != 0 || asked == 0) {
            System.exit(1);
        }
    }

    /** A call by its name with all its arguments as longs (a boolean is 1 or 0): the answer of both as text. */
    String call(String method, long... v) {
        StringBuilder text = new StringBuilder(name + ": " + method + "(");
        calls++;
        if (calls == MOST_CALLS + 1) {
            due(name + ": the test's own calls", "too many", MOST_CALLS + " at the most");
        }
        for (int i = 0; i < v.length; i++) {
            text.append(i == 0 ? "" : ", ").append(v[i]);
        }
        String want = answer(false, method, v);
        String got = answer(true, method, v);
        due(text.append(")").toString(), got, want);
        return got;
    }

    /** A call whose answer the test writes down itself; the plain desk must say so too. */
    void call(Object want, String method, long... v) {
        String got = call(method, v);
        due(name + ": " + method + java.util.Arrays.toString(v) + " as written down", got, String.valueOf(want));
    }

    void refused(String exception, String method, long... v) {
        call("throws." + exception, method, v);
    }

    void illegal(String method, long... v) {
        refused("IllegalArgumentException", method, v);
    }

    void done(String method, long... v) {
        call("done", method, v);
    }

    private String answer(boolean real, String method, long[] v) {
        try {
            Object answer = real ? ofDesk(method, v) : ofPlain(method, v);
            return String.valueOf(answer);
        } catch (IllegalArgumentException | IllegalStateException | ArithmeticException | NoSuchElementException e) {
            return "throws." + e.getClass().getSimpleName();
        } catch (RuntimeException e) {
            return "throws by itself " + e;
        }
    }

    private static int i(long[] v, int k) {
        return (int) v[k];
    }

    private Object ofDesk(String method, long[] v) {
        switch (method) {
            case "feed": return desk.feed(i(v, 0), v[1]);
            case "number": return desk.number(i(v, 0));
            case "set": desk.set(i(v, 0), v[1]); return "done";
            case "word": return desk.word(i(v, 0), i(v, 1));
            case "reckon": desk.reckon(i(v, 0), i(v, 1), i(v, 2), i(v, 3)); return "done";
            case "power": desk.power(i(v, 0), i(v, 1), v[2]); return "done";
            case "unity": desk.unity(i(v, 0), i(v, 1)); return "done";
            case "point": return desk.point(i(v, 0));
            case "bytes": desk.bytes(i(v, 0), v[1] == 1); return "done";
            case "out": return desk.out(i(v, 0));
            case "join": desk.join(i(v, 0), i(v, 1), i(v, 2), i(v, 3)); return "done";
            case "times": desk.times(i(v, 0), i(v, 1), i(v, 2)); return "done";
            case "combine": desk.combine(i(v, 0), i(v, 1), i(v, 2), i(v, 3)); return "done";
            case "same": return desk.same(i(v, 0), i(v, 1));
            case "setup": desk.setup(i(v, 0), i(v, 1)); return "done";
            case "commit": desk.commit(i(v, 0), i(v, 1), i(v, 2)); return "done";
            case "open": desk.open(i(v, 0), i(v, 1), i(v, 2), i(v, 3)); return "done";
            case "checks": return desk.checks(i(v, 0), i(v, 1), i(v, 2), i(v, 3), i(v, 4));
            case "transform": desk.transform(i(v, 0), i(v, 1), v[2] == 1); return "done";
            case "lagrange": desk.lagrange(i(v, 0), i(v, 1), i(v, 2), i(v, 3)); return "done";
            default: return desk.look(i(v, 0));
        }
    }

    private Object ofPlain(String method, long[] v) {
        switch (method) {
            case "feed": return plain.feed(i(v, 0), v[1]);
            case "number": return plain.number(i(v, 0));
            case "set": plain.set(i(v, 0), v[1]); return "done";
            case "word": return plain.word(i(v, 0), i(v, 1));
            case "reckon": plain.reckon(i(v, 0), i(v, 1), i(v, 2), i(v, 3)); return "done";
            case "power": plain.power(i(v, 0), i(v, 1), v[2]); return "done";
            case "unity": plain.unity(i(v, 0), i(v, 1)); return "done";
            case "point": return plain.point(i(v, 0));
            case "bytes": plain.bytes(i(v, 0), v[1] == 1); return "done";
            case "out": return plain.out(i(v, 0));
            case "join": plain.join(i(v, 0), i(v, 1), i(v, 2), i(v, 3)); return "done";
            case "times": plain.times(i(v, 0), i(v, 1), i(v, 2)); return "done";
            case "combine": plain.combine(i(v, 0), i(v, 1), i(v, 2), i(v, 3)); return "done";
            case "same": return plain.same(i(v, 0), i(v, 1));
            case "setup": plain.setup(i(v, 0), i(v, 1)); return "done";
            case "commit": plain.commit(i(v, 0), i(v, 1), i(v, 2)); return "done";
            case "open": plain.open(i(v, 0), i(v, 1), i(v, 2), i(v, 3)); return "done";
            case "checks": return plain.checks(i(v, 0), i(v, 1), i(v, 2), i(v, 3), i(v, 4));
            case "transform": plain.transform(i(v, 0), i(v, 1), v[2] == 1); return "done";
            case "lagrange": plain.lagrange(i(v, 0), i(v, 1), i(v, 2), i(v, 3)); return "done";
            default: return plain.look(i(v, 0));
        }
    }

    void feedBytes(byte... bytes) {
        for (int from = 0; from < bytes.length; from += 8) {
            long v = 0;
            int n = Math.min(8, bytes.length - from);
            for (int k = 0; k < n; k++) {
                v |= (bytes[from + k] & 255L) << 8 * k;
            }
            call("feed", n, v);
        }
    }

    /** Feeds a number of 32 bytes, lowest first. */
    void feedNumber(BigInteger n) {
        byte[] bytes = new byte[32];
        for (int k = 0; k < 32; k++) {
            bytes[k] = n.shiftRight(8 * k).byteValue();
        }
        feedBytes(bytes);
    }

    void number(int a, BigInteger n) {
        feedNumber(n);
        call("number", a);
    }

    /** A scalar whose value the test writes down itself. */
    void holds(int a, BigInteger n) {
        for (int k = 0; k < 8; k++) {
            call(n.shiftRight(32 * k).longValue() & 0xffffffffL, "word", a, k);
        }
    }

    /** A point, nothing being null, that the test writes down itself. */
    void isPoint(int p, BigInteger[] want) {
        call("bytes", p, 0);
        seeOut(PlainDesk.form(want, false));
    }

    /** All of OUT, as the test writes it down itself. */
    void seeOut(byte[] want) {
        call(want.length, "look", 2);
        for (int k = 0; k < want.length; k += 8) {
            long eight = 0;
            for (int i = 7; i >= 0; i--) {
                eight = eight << 8 | want[k + i] & 255;
            }
            call(eight, "out", k);
        }
    }

    void seeScalar(int a) {
        for (int k = 0; k < 8; k++) {
            call("word", a, k);
        }
    }

    void seePoint(int p) {
        call("bytes", p, 1);
        for (int k = 0; k < 48; k += 8) {
            call("out", k);
        }
    }

    /** All that the calls can tell of the state; the tape and the powers come last, as to see them changes others. */
    void seeWhole() {
        for (int what = 0; what < 3; what++) {
            call("look", what);
        }
        for (int k = 0; k < 96; k += 8) {
            call("out", k);
        }
        for (int a = 0; a < 32; a++) {
            seeScalar(a);
        }
        for (int p = 0; p < 12; p++) {
            seePoint(p);
        }
        call("commit", 11, 1, plain.powers.size());
        seePoint(11);
        if (plain.tape.length > 32) {
            call("point", 11);
            seePoint(11);
        } else {
            call("number", 31);
            seeScalar(31);
        }
    }
}
