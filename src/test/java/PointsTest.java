import java.math.BigInteger;

/** Promises 9 to 15: point, bytes, out, join, times, combine and same. */
public final class PointsTest {
    private static final BigInteger Q = PlainDesk.Q;
    private static final BigInteger R = PlainDesk.R;
    private static final int[] NO_POINTS = {-1, 12, 13, Integer.MIN_VALUE, Integer.MAX_VALUE};
    private static final int[] NO_SCALARS = {-1, 32, 33, Integer.MIN_VALUE, Integer.MAX_VALUE};

    public static void main(String[] args) {
        lengths();
        marks();
        nothing();
        coordinatesTooGreat();
        pointsOffTheCurve();
        pointsNotGood();
        goodPoints();
        bytesAndOut();
        join();
        times();
        combine();
        Pair.end();
    }

    private static Pair pairWithG(String name) {
        Pair x = new Pair(name);
        x.call("join", 1, 0, 0, 0);
        return x;
    }

    /** A point that is read with a fault leaves P0 as it was, and the tape empty. */
    private static void fault(int want, String name, byte[] bytes) {
        Pair x = pairWithG(name);
        x.feedBytes(bytes);
        x.call(want, "point", 0);
        x.call(0, "look", 1);
        x.seePoint(0);
    }

    private static void lengths() {
        byte[] form = PlainDesk.form(PlainDesk.G, false);
        for (int n : new int[] {0, 1, 47, 49, 95}) {
            fault(1, n + " bytes", java.util.Arrays.copyOf(form, n));
        }
        Pair x = pairWithG("no point to read into");
        x.feedBytes(PlainDesk.form(null, true));
        for (int p : NO_POINTS) {
            x.illegal("point", p);
        }
        x.call(48, "look", 1);
        x.call(0, "point", 11);
        x.call(0, "look", 1);
    }

    private static void marks() {
        for (int size : new int[] {48, 96}) {
            for (int marks = 0; marks < 8; marks++) {
                boolean can = size == 48 ? marks >= 4 && marks != 7 : marks == 0 || marks == 2;
                byte[] form = PlainDesk.form(PlainDesk.G, size == 48);
                form[0] = (byte) (form[0] & 31 | marks << 5);
                Pair x = pairWithG(size + " bytes with marks " + marks);
                x.feedBytes(form);
                x.call(!can ? 2 : (marks & 2) != 0 ? 3 : 0, "point", 1);
                x.seePoint(1);
            }
        }
        byte[] all = new byte[96];
        java.util.Arrays.fill(all, (byte) 255);
        fault(2, "96 bytes of ones", all);
        fault(2, "48 bytes of ones", java.util.Arrays.copyOf(all, 48));
    }

    private static void nothing() {
        for (int size : new int[] {48, 96}) {
            for (int bit = 3; bit < 8 * size; bit += bit < 9 || bit > 8 * size - 3 ? 1 : 37) {
                byte[] form = PlainDesk.form(null, size == 48);
                form[bit / 8] |= (byte) (128 >> bit % 8);
                fault(3, size + " bytes of nothing with bit " + bit, form);
            }
            Pair x = pairWithG(size + " bytes of nothing");
            x.feedBytes(PlainDesk.form(null, size == 48));
            x.call(0, "point", 0);
            x.call(true, "same", 0, 1);
            x.seePoint(0);
        }
    }

    private static byte[] longForm(BigInteger x, BigInteger y) {
        byte[] made = new byte[96];
        PlainDesk.putNumber(made, 0, x);
        PlainDesk.putNumber(made, 48, y);
        return made;
    }

    private static byte[] shortForm(BigInteger x, boolean greater) {
        byte[] made = java.util.Arrays.copyOf(longForm(x, x), 48);
        made[0] |= (byte) (greater ? 0xa0 : 0x80);
        return made;
    }

    private static void coordinatesTooGreat() {
        BigInteger most = BigInteger.ONE.shiftLeft(381).subtract(BigInteger.ONE);
        BigInteger gx = PlainDesk.G[0];
        BigInteger gy = PlainDesk.G[1];
        fault(4, "short, x is Q", shortForm(Q, false));
        fault(4, "short, x is Q + 4", shortForm(Q.add(PlainDesk.FOUR), true));
        fault(4, "short, all bits of x", shortForm(most, false));
        fault(4, "long, x is Q", longForm(Q, gy));
        fault(4, "long, y is Q", longForm(gx, Q));
        fault(4, "long, y is Q and more", longForm(gx, gy.add(Q)));
        fault(4, "long, a high bit of y", longForm(gx, gy.setBit(383)));
        fault(4, "long, both", longForm(most, most));
        fault(5, "short, x is Q - 1 is below", shortForm(Q.subtract(BigInteger.ONE), false));
        fault(5, "long, x and y are Q - 1", longForm(Q.subtract(BigInteger.ONE), Q.subtract(BigInteger.ONE)));
    }

    private static void pointsOffTheCurve() {
        BigInteger gx = PlainDesk.G[0];
        BigInteger gy = PlainDesk.G[1];
        for (int x = 0; x < 12; x++) {
            BigInteger at = BigInteger.valueOf(x);
            BigInteger root = PlainDesk.rootFor(at);
            if (!PlainDesk.onCurve(at, root)) {
                fault(5, "no point has x " + x, shortForm(at, x % 2 == 0));
                fault(5, "nor with its would-be y", longForm(at, root));
            }
        }
        fault(5, "y is one more", longForm(gx, gy.add(BigInteger.ONE)));
        fault(5, "x and y changed", longForm(gy, gx));
        fault(5, "y is 0", longForm(gx, BigInteger.ZERO));
        fault(5, "both are 0", longForm(BigInteger.ZERO, BigInteger.ZERO));
    }

    private static void pointsNotGood() {
        fault(6, "x is 0, y is 2", longForm(BigInteger.ZERO, BigInteger.TWO));
        fault(6, "x is 0, y is Q - 2", longForm(BigInteger.ZERO, Q.subtract(BigInteger.TWO)));
        fault(6, "x is 0, short", shortForm(BigInteger.ZERO, false));
        fault(6, "x is 0, short, greater", shortForm(BigInteger.ZERO, true));
        int found = 0;
        for (int x = 1; x < 40 && found < 6; x++) {
            BigInteger at = BigInteger.valueOf(x);
            BigInteger root = PlainDesk.rootFor(at);
            if (PlainDesk.onCurve(at, root)) {
                fault(6, "x is " + x + ", short", shortForm(at, x % 2 == 0));
                fault(6, "x is " + x + ", long", longForm(at, root));
                found++;
            }
        }
        // A good point and one of three on top: still on the curve, no more good.
        BigInteger[] mixed = PlainDesk.sum(PlainDesk.G, new BigInteger[] {BigInteger.ZERO, BigInteger.TWO});
        fault(6, "G and a point of order 3", PlainDesk.form(mixed, true));
        fault(6, "G and a point of order 3", PlainDesk.form(mixed, false));
    }

    private static void goodPoints() {
        BigInteger[] p = PlainDesk.G;
        for (int i = 0; i < 6; i++) {
            for (BigInteger[] q : new BigInteger[][] {p, PlainDesk.minus(p)}) {
                Pair x = new Pair("good point " + i);
                x.feedBytes(PlainDesk.form(q, true));
                x.call(0, "point", 3);
                x.feedBytes(PlainDesk.form(q, false));
                x.call(0, "point", 4);
                x.call(true, "same", 3, 4);
                x.call("bytes", 3, 0);
                for (int k = 0; k < 96; k += 8) {
                    x.call("out", k);
                }
                x.seePoint(4);
                x.call("join", 2, 5, 3, 4);
                x.seePoint(5);
                x.call("join", 3, 5, 3, 4);
                x.seePoint(5);
            }
            p = PlainDesk.multiple(BigInteger.valueOf(1000003), p);
        }
    }

    private static void bytesAndOut() {
        Pair x = pairWithG("promises 10 and 11");
        x.call("throws.NoSuchElementException", "out", 0);
        for (int shorter = 0; shorter < 2; shorter++) {
            for (int p = 0; p < 2; p++) {
                int size = shorter == 1 ? 48 : 96;
                x.call("bytes", p, shorter);
                x.call(size, "look", 2);
                for (int k = 0; k < size; k += k > size - 12 ? 1 : 13) {
                    x.call("out", k);
                }
                for (int k : new int[] {-1, size, size + 1, Integer.MAX_VALUE, Integer.MIN_VALUE}) {
                    x.call("throws.NoSuchElementException", "out", k);
                }
            }
        }
        x.call("bytes", 1, 1);
        x.call(192, "out", 0);
        for (int p : NO_POINTS) {
            x.illegal("bytes", p, 0);
        }
        x.call(48, "look", 2);
        x.call(192, "out", 0);
        x.call("bytes", 1, 0);
        x.call(64, "out", 0);
    }

    private static void join() {
        Pair x = pairWithG("promise 12");
        x.call("join", 2, 1, 0, 0);
        x.call("join", 2, 2, 1, 0);
        x.call("join", 2, 2, 2, 2);
        x.call("join", 3, 3, 0, 1);
        x.call("join", 2, 4, 0, 3);
        x.call(true, "same", 4, 11);
        x.call("join", 3, 5, 11, 2);
        x.call("join", 2, 6, 11, 2);
        x.call("join", 2, 7, 2, 11);
        x.call("join", 3, 8, 2, 11);
        x.call("join", 3, 2, 2, 2);
        x.call(true, "same", 2, 11);
        x.call("join", 2, 9, 11, 10);
        x.call("join", 3, 10, 11, 10);
        x.call(true, "same", 10, 11);
        for (int p = 0; p < 12; p++) {
            x.seePoint(p);
        }
        x.call("join", 0, 1, 0, 0);
        x.call(true, "same", 1, 11);
        for (int what : new int[] {-1, 4, Integer.MIN_VALUE, Integer.MAX_VALUE}) {
            x.illegal("join", what, 0, 0, 0);
        }
        for (int p : NO_POINTS) {
            for (int what = 0; what < 4; what++) {
                x.illegal("join", what, p, 0, 0);
                x.illegal("join", what, 0, p, 0);
                x.illegal("join", what, 0, 0, p);
            }
            x.illegal("same", p, 0);
            x.illegal("same", 0, p);
        }
        for (int p = 0; p < 12; p++) {
            x.call("same", 0, p);
            x.call("same", 1, p);
            x.call("same", p, 5);
        }
    }

    private static void times() {
        Pair x = pairWithG("promise 13");
        BigInteger[] some = {BigInteger.ZERO, BigInteger.ONE, BigInteger.TWO, BigInteger.valueOf(15), BigInteger.valueOf(16),
            BigInteger.valueOf(0xff77), R.subtract(BigInteger.ONE), R.subtract(BigInteger.TWO), R.shiftRight(1),
            BigInteger.ONE.shiftLeft(254), BigInteger.ONE.shiftLeft(254).subtract(BigInteger.ONE),
            R.multiply(BigInteger.valueOf(3)).divide(BigInteger.valueOf(11))};
        for (BigInteger s : some) {
            x.number(5, s);
            x.call("times", 1, 5, 0);
            x.seePoint(1);
            x.call("times", 2, 5, 2);
            x.call(true, "same", 2, 11);
        }
        x.call("times", 0, 5, 0);
        x.seePoint(0);
        x.call("join", 2, 0, 0, 1);
        x.call("times", 3, 5, 0);
        x.seePoint(3);
        for (int p : NO_POINTS) {
            x.illegal("times", p, 5, 0);
            x.illegal("times", 0, 5, p);
        }
        for (int a : NO_SCALARS) {
            x.illegal("times", 0, a, 0);
        }
        x.seePoint(0);
    }

    private static Pair pairWithMany(String name) {
        Pair x = pairWithG(name);
        for (int i = 0; i < 12; i++) {
            x.number(i, R.divide(BigInteger.valueOf(3 * i + 2)).add(BigInteger.valueOf(i)));
            if (i > 0 && i != 5) {
                x.call("join", 2, i, i - 1, 0);
            }
        }
        x.call("set", 7, 0);
        x.call("set", 8, 1);
        return x;
    }

    private static void combine() {
        for (int n = 0; n <= 12; n++) {
            Pair x = pairWithMany("promise 14, n " + n);
            x.call("combine", n % 12, 0, 0, n);
            x.seePoint(n % 12);
            x.call("combine", 11, 32 - n, 12 - n, n);
            x.seePoint(11);
        }
        Pair x = pairWithMany("promise 14, wrong");
        long[][] wrong = {{0, 0, 0, 13}, {0, 0, 0, -1}, {0, 0, 0, Integer.MAX_VALUE}, {0, 0, 0, Integer.MIN_VALUE},
            {0, 21, 0, 12}, {0, 0, 1, 12}, {0, 32, 0, 1}, {0, 0, 12, 1}, {0, -1, 0, 2}, {0, 0, -1, 2}, {12, 0, 0, 1},
            {-1, 0, 0, 0}, {12, 0, 0, 0}, {0, Integer.MAX_VALUE, 0, 2}, {0, 0, Integer.MAX_VALUE, 2},
            {0, Integer.MIN_VALUE, 0, 2}, {0, 0, Integer.MIN_VALUE, 2}};
        for (long[] v : wrong) {
            x.illegal("combine", v);
        }
        x.seePoint(0);
        x.call("done", "combine", 0, -5, 99, 0);
        x.call(true, "same", 0, 5);
        x.call("done", "combine", 1, Integer.MAX_VALUE, Integer.MIN_VALUE, 0);
        x.call(true, "same", 1, 5);
    }
}
