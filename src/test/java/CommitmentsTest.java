import java.math.BigInteger;

/** Promises 16 to 22: setup, commit, open, checks, transform, lagrange and look. */
public final class CommitmentsTest {
    private static final BigInteger R = PlainDesk.R;
    private static final int[] NO_POINTS = {-1, 12, Integer.MIN_VALUE, Integer.MAX_VALUE};
    private static final int[] NO_SCALARS = {-1, 32, Integer.MIN_VALUE, Integer.MAX_VALUE};

    public static void main(String[] args) {
        setup();
        commit();
        open();
        checks();
        transform();
        lagrange();
        look();
        Pair.end();
    }

    private static BigInteger big(int i) {
        return R.divide(BigInteger.valueOf(i + 2)).multiply(BigInteger.valueOf(i + 1)).add(BigInteger.valueOf(i));
    }

    private static Pair pairWithScalars(String name, int n) {
        Pair x = new Pair(name);
        for (int i = 0; i < n; i++) {
            x.number(i, big(i));
        }
        return x;
    }

    /** Each power is seen by itself: 1 times it, and 0 times the others. */
    private static void seePowers(Pair x, int n) {
        for (int i = 0; i < n; i++) {
            for (int a = 0; a < n; a++) {
                x.call("set", 16 + a, a == i ? 1 : 0);
            }
            x.call("commit", 11, 16, n);
            x.seePoint(11);
        }
    }

    private static void setup() {
        BigInteger[] secrets = {BigInteger.ZERO, BigInteger.ONE, BigInteger.valueOf(3), R.subtract(BigInteger.ONE),
            BigInteger.ONE.shiftLeft(64), BigInteger.ONE.shiftLeft(64).subtract(BigInteger.ONE), big(7)};
        for (BigInteger secret : secrets) {
            Pair x = new Pair("promise 16, secret " + secret);
            x.number(15, secret);
            x.call("setup", 15, 5);
            x.call(5, "look", 0);
            seePowers(x, 5);
            x.call("setup", 15, 2);
            x.call(2, "look", 0);
            x.call("throws.IllegalStateException", "commit", 0, 0, 3);
        }
        Pair x = new Pair("promise 16, all powers");
        x.number(0, big(3));
        x.call("setup", 0, 16);
        x.call(16, "look", 0);
        seePowers(x, 16);
        for (int n : new int[] {0, -1, 17, Integer.MIN_VALUE, Integer.MAX_VALUE}) {
            x.illegal("setup", 0, n);
        }
        for (int a : NO_SCALARS) {
            x.illegal("setup", a, 3);
        }
        x.call(16, "look", 0);
        x.call("setup", 0, 1);
        seePowers(x, 1);
    }

    private static void commit() {
        Pair x = pairWithScalars("promise 17", 20);
        x.call("join", 1, 0, 0, 0);
        x.call("throws.IllegalStateException", "commit", 0, 0, 1);
        x.call("setup", 19, 16);
        for (int n = 0; n <= 16; n++) {
            x.call("commit", 1, 2, n);
            x.seePoint(1);
        }
        x.call("commit", 1, 16, 16);
        x.seePoint(1);
        x.call("setup", 19, 4);
        x.call("throws.IllegalStateException", "commit", 0, 0, 5);
        x.call("throws.IllegalStateException", "commit", 0, 16, 16);
        long[][] wrong = {{0, 0, 17}, {0, 0, -1}, {0, 29, 4}, {0, 17, 16}, {0, -1, 2}, {12, 0, 2}, {-1, 0, 0}, {12, 0, 5},
            {0, Integer.MAX_VALUE, 2}, {0, Integer.MIN_VALUE, 2}, {0, 0, Integer.MAX_VALUE}, {0, 0, Integer.MIN_VALUE}};
        for (long[] v : wrong) {
            x.illegal("commit", v);
        }
        x.seePoint(0);
        x.call("done", "commit", 0, 99, 0);
        x.call(true, "same", 0, 11);
        Pair empty = new Pair("promise 17, no powers");
        empty.call("done", "commit", 0, 0, 0);
        empty.illegal("commit", 0, 32, 1);
    }

    private static void open() {
        for (int n = 1; n <= 16; n++) {
            Pair x = pairWithScalars("promise 18, n " + n, 18);
            x.call("open", 1, n, 17, 31);
            for (int a = 0; a < 18; a++) {
                x.seeScalar(a);
            }
            x.seeScalar(31);
        }
        int[][] overlaps = {{4, 4}, {4, 20}, {20, 4}, {7, 20}, {20, 7}, {7, 4}, {4, 7}, {20, 20}, {5, 5}};
        for (int[] zy : overlaps) {
            Pair x = pairWithScalars("promise 18, z " + zy[0] + ", y " + zy[1], 21);
            x.call("open", 4, 4, zy[0], zy[1]);
            for (int a = 3; a < 9; a++) {
                x.seeScalar(a);
            }
            x.seeScalar(20);
        }
        Pair x = pairWithScalars("promise 18, wrong", 20);
        x.call("open", 0, 1, 31, 30);
        x.call(0, "word", 0, 0);
        long[][] wrong = {{0, 0, 1, 2}, {0, -1, 1, 2}, {0, 17, 1, 2}, {17, 16, 1, 2}, {-1, 2, 1, 2}, {32, 1, 1, 2},
            {0, Integer.MAX_VALUE, 1, 2}, {Integer.MAX_VALUE, 2, 1, 2}, {Integer.MIN_VALUE, 2, 1, 2},
            {0, Integer.MIN_VALUE, 1, 2}};
        for (long[] v : wrong) {
            x.illegal("open", v);
        }
        for (int a : NO_SCALARS) {
            x.illegal("open", 0, 4, a, 2);
            x.illegal("open", 0, 4, 2, a);
        }
        for (int a = 0; a < 20; a++) {
            x.seeScalar(a);
        }
    }

    private static void checks() {
        Pair x = pairWithScalars("promise 19", 8);
        x.number(20, big(33));
        x.number(21, big(44));
        x.call("setup", 21, 8);
        x.call("commit", 0, 0, 8);
        x.call("open", 0, 8, 20, 22);
        x.call("commit", 1, 0, 8);
        x.call(true, "checks", 0, 1, 20, 22, 21);
        x.call(false, "checks", 0, 1, 20, 22, 20);
        x.call(false, "checks", 0, 1, 20, 21, 21);
        x.call(false, "checks", 1, 0, 20, 22, 21);
        x.call(false, "checks", 0, 2, 20, 22, 21);
        x.call(false, "checks", 2, 1, 20, 22, 21);
        x.call("set", 23, 1);
        x.call("reckon", 0, 24, 22, 23);
        x.call(false, "checks", 0, 1, 20, 24, 21);
        x.call(true, "checks", 2, 2, 20, 30, 21);
        x.call("join", 1, 3, 0, 0);
        x.call(true, "checks", 3, 2, 20, 23, 21);
        x.call(true, "checks", 3, 3, 30, 30, 23);
        x.call(true, "checks", 3, 1, 20, 23, 20);
        for (int p : NO_POINTS) {
            x.illegal("checks", p, 1, 20, 22, 21);
            x.illegal("checks", 0, p, 20, 22, 21);
        }
        for (int a : NO_SCALARS) {
            x.illegal("checks", 0, 1, a, 22, 21);
            x.illegal("checks", 0, 1, 20, a, 21);
            x.illegal("checks", 0, 1, 20, 22, a);
        }
        x.seePoint(0);
        x.seePoint(1);
    }

    private static void transform() {
        for (int k = 0; k <= 4; k++) {
            for (int back = 0; back < 2; back++) {
                Pair x = pairWithScalars("promise 20, k " + k + ", back " + back, 18);
                x.call("transform", 1, k, back);
                for (int a = 0; a < 18; a++) {
                    x.seeScalar(a);
                }
                x.call("transform", 1, k, 1 - back);
                for (int a = 0; a < 18; a++) {
                    x.seeScalar(a);
                }
                x.call("done", "transform", 32 - (1 << k), k, back);
                x.illegal("transform", 33 - (1 << k), k, back);
            }
        }
        Pair x = pairWithScalars("promise 20, wrong", 20);
        long[][] wrong = {{0, -1, 0}, {0, 5, 0}, {-1, 2, 0}, {29, 2, 1}, {17, 4, 1}, {32, 0, 0}, {0, 32, 0}, {0, 31, 0},
            {Integer.MAX_VALUE, 1, 0}, {Integer.MIN_VALUE, 1, 0}, {0, Integer.MAX_VALUE, 0}, {0, Integer.MIN_VALUE, 0}};
        for (long[] v : wrong) {
            x.illegal("transform", v);
        }
        for (int a = 0; a < 20; a++) {
            x.seeScalar(a);
        }
    }

    private static void lagrange() {
        for (int k = 0; k <= 4; k++) {
            Pair x = pairWithScalars("promise 21, k " + k, 1);
            x.call("unity", 1, k);
            for (int i = 0; i < 1 << k; i++) {
                x.call("lagrange", 2, k, i, 0);
                x.seeScalar(2);
                x.call("power", 3, 1, i);
                x.call("lagrange", 2, k, i, 3);
                x.call(1, "word", 2, 0);
                x.call("lagrange", 3, k, i, 3);
                x.call(1, "word", 3, 0);
                x.call("power", 3, 1, i + 1);
                x.call("lagrange", 2, k, i, 3);
                x.call(k == 0 ? 1 : 0, "word", 2, 0);
                x.call("lagrange", 2, k, i, 31);
                x.seeScalar(2);
            }
            x.illegal("lagrange", 2, k, 1 << k, 0);
            x.illegal("lagrange", 2, k, -1, 0);
            x.illegal("lagrange", 2, k, Integer.MAX_VALUE, 0);
            x.illegal("lagrange", 2, k, Integer.MIN_VALUE, 0);
        }
        Pair x = pairWithScalars("promise 21, wrong", 3);
        for (int k : new int[] {-1, 5, 31, 32, Integer.MAX_VALUE, Integer.MIN_VALUE}) {
            x.illegal("lagrange", 0, k, 0, 1);
        }
        for (int a : NO_SCALARS) {
            x.illegal("lagrange", a, 2, 0, 1);
            x.illegal("lagrange", 0, 2, 0, a);
        }
        x.seeScalar(0);
    }

    private static void look() {
        Pair x = new Pair("promise 22");
        x.call("set", 0, 2);
        x.call("setup", 0, 3);
        x.call("feed", 5, 1);
        x.call("bytes", 0, 0);
        x.call(3, "look", 0);
        x.call(5, "look", 1);
        x.call(96, "look", 2);
        x.call("bytes", 0, 1);
        x.call(48, "look", 2);
        for (int what : new int[] {-1, 3, Integer.MIN_VALUE, Integer.MAX_VALUE}) {
            x.illegal("look", what);
        }
    }
}
