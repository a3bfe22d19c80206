import java.math.BigInteger;
import java.util.Random;

/** Runs of mixed calls, drawn anew in the same way each time, with all of the state looked at in the end. */
public final class RunsTest {
    private static final int RUNS = 80;
    private static final int CALLS_OF_A_STEP = 14;

    private final Random draw;
    private final Pair pair;

    private RunsTest(int seed) {
        draw = new Random(seed);
        pair = new Pair("run " + seed);
    }

    public static void main(String[] args) {
        for (int seed = 1; seed <= RUNS; seed++) {
            RunsTest run = new RunsTest(seed);
            while (run.pair.hasRoomFor(CALLS_OF_A_STEP)) {
                run.step();
            }
            run.pair.seeWhole();
        }
        Pair.end();
    }

    /** An index that is mostly there, and at times just outside. */
    private int index(int size) {
        return draw.nextInt(25) == 0 ? draw.nextInt(3) - 1 + (draw.nextBoolean() ? size : 0) : draw.nextInt(size);
    }

    private int scalar() {
        return index(32);
    }

    private int point() {
        return index(12);
    }

    private BigInteger someNumber() {
        BigInteger n = new BigInteger(draw.nextInt(257), draw);
        int kind = draw.nextInt(6);
        return kind == 0 ? PlainDesk.R.subtract(BigInteger.valueOf(draw.nextInt(5) - 1)) : kind == 1 ? n : n.mod(PlainDesk.R);
    }

    private void feedPoint() {
        BigInteger[] p = draw.nextInt(8) == 0 ? null : PlainDesk.multiple(new BigInteger(20, draw), PlainDesk.G);
        byte[] form = PlainDesk.form(p, draw.nextInt(3) > 0);
        if (draw.nextInt(3) == 0) {
            form[draw.nextInt(form.length)] ^= (byte) (1 << draw.nextInt(8));
        } else if (draw.nextInt(3) == 0) {
            form[0] ^= (byte) 32;
        }
        pair.feedBytes(form);
        pair.call("point", point());
    }

    private void step() {
        switch (draw.nextInt(22)) {
            case 0: pair.call("feed", index(9), draw.nextLong()); break;
            case 1: pair.call("number", scalar()); break;
            case 2: pair.call("point", point()); break;
            case 3: pair.number(draw.nextInt(32), someNumber()); break;
            case 4: pair.number(draw.nextInt(32), someNumber()); break;
            case 5: feedPoint(); break;
            case 6: pair.call("set", scalar(), draw.nextLong() >> draw.nextInt(64)); break;
            case 7: pair.call("word", scalar(), index(8)); break;
            case 8: pair.call("reckon", index(4), scalar(), scalar(), scalar()); break;
            case 9: pair.call("power", scalar(), scalar(), draw.nextLong() >> draw.nextInt(64)); break;
            case 10: pair.call("unity", scalar(), index(33)); break;
            case 11: pair.call("out", index(96)); break;
            case 12: pair.call("bytes", point(), draw.nextInt(2)); break;
            case 13: pair.call("join", index(4), point(), point(), point()); break;
            case 14: pair.call("times", point(), scalar(), point()); break;
            case 15: pair.call("combine", point(), scalar(), draw.nextInt(4), index(9)); break;
            case 16: pair.call("same", point(), point()); break;
            case 17: pair.call("setup", scalar(), index(17)); break;
            case 18: pair.call("commit", point(), scalar(), draw.nextInt(6)); break;
            case 19: pair.call("open", scalar(), index(17), scalar(), scalar()); break;
            case 20: pair.call("transform", scalar(), index(5), draw.nextInt(2)); break;
            default: pair.call("lagrange", scalar(), index(5), index(8), scalar()); checks(); break;
        }
    }

    /** A whole round of commitment and opening, with a fault in one of two. */
    private void checks() {
        pair.call("setup", 31, 3);
        pair.call("commit", 10, 28, 3);
        pair.call("open", 28, 3, 27, 26);
        pair.call("commit", 11, 28, 3);
        pair.call("checks", 10, 11, 27, draw.nextBoolean() ? 26 : scalar(), 31);
    }
}
