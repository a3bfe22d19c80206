import java.math.BigInteger;

/** Promises 9 to 15 on ordinary inputs: point, bytes, out, join, times, combine and same. */
public final class PointsTest {
    private static final BigInteger R = PlainDesk.R;

    public static void main(String[] args) {
        pointsThereAndBack();
        pointsThatAreNotGood();
        join();
        times();
        combine();
        Pair.end();
    }

    private static void pointsThereAndBack() {
        BigInteger[] p = PlainDesk.G;
        for (int i = 0; i < 6; i++) {
            for (BigInteger[] q : new BigInteger[][] {p, PlainDesk.minus(p)}) {
                Pair x = new Pair("promises 9 to 11, point " + i);
                x.feedBytes(PlainDesk.form(q, true));
                x.call(0, "point", 3);
                x.feedBytes(PlainDesk.form(q, false));
                x.call(0, "point", 4);
                x.call(true, "same", 3, 4);
                x.isPoint(3, q);
                x.call("bytes", 4, 1);
                x.seeOut(PlainDesk.form(q, true));
                x.call("join", 2, 5, 3, 4);
                x.isPoint(5, PlainDesk.sum(q, q));
                x.call("join", 3, 5, 3, 4);
                x.isPoint(5, null);
            }
            p = PlainDesk.multiple(BigInteger.valueOf(1000003), p);
        }
    }

    /** Of the points with small x hardly one is good: none of these. */
    private static void pointsThatAreNotGood() {
        for (int x = 1; x < 40; x++) {
            BigInteger at = BigInteger.valueOf(x);
            BigInteger root = PlainDesk.rootFor(at);
            boolean there = PlainDesk.onCurve(at, root);
            for (int shorter = 0; shorter < 2; shorter++) {
                Pair pair = new Pair("promise 9, x " + x);
                pair.feedBytes(PlainDesk.form(new BigInteger[] {at, root}, shorter == 1));
                pair.call(there ? 6 : 5, "point", 0);
                pair.isPoint(0, null);
            }
        }
    }

    private static void join() {
        Pair x = new Pair("promise 12");
        x.call("join", 1, 0, 0, 0);
        for (int i = 1; i <= 40; i++) {
            x.done("join", i % 4 == 0 ? 3 : 2, i % 12, (i + 5) % 12, (i + 11) % 12);
            x.seePoint(i % 12);
        }
        for (int p = 0; p < 12; p++) {
            x.call("same", 0, p);
            x.call("same", p, 5);
        }
    }

    private static void times() {
        Pair x = new Pair("promise 13");
        BigInteger[] some = {BigInteger.valueOf(3), BigInteger.valueOf(15), BigInteger.valueOf(16), BigInteger.valueOf(0xff77),
            R.subtract(BigInteger.TWO), R.shiftRight(1), BigInteger.ONE.shiftLeft(254),
            BigInteger.ONE.shiftLeft(254).subtract(BigInteger.ONE), R.multiply(BigInteger.valueOf(3)).divide(BigInteger.valueOf(11))};
        x.call("join", 1, 0, 0, 0);
        for (BigInteger s : some) {
            x.number(5, s);
            x.done("times", 1, 5, 0);
            x.isPoint(1, PlainDesk.multiple(s, PlainDesk.G));
        }
        x.done("times", 0, 5, 0);
        x.call("join", 2, 0, 0, 1);
        x.done("times", 3, 5, 0);
        x.seePoint(3);
    }

    /** Scalars of all sizes, 0 and 1 among them, and a point that is nothing. */
    private static void combine() {
        Pair x = Pair.furnished("promise 14");
        x.call("set", 3, 1);
        x.call("set", 4, 0);
        for (int n = 1; n <= 9; n++) {
            x.done("combine", n, n, 3, n);
            x.seePoint(n);
        }
    }
}
