import java.math.BigInteger;

/** Promises 16 to 21 on ordinary inputs: setup, commit, open, checks, transform and lagrange. */
public final class CommitmentsTest {
    private static final BigInteger R = PlainDesk.R;

    public static void main(String[] args) {
        setup();
        commit();
        open();
        checks();
        transform();
        lagrange();
        Pair.end();
    }

    private static BigInteger big(int i) {
        return R.divide(BigInteger.valueOf(i + 2)).multiply(BigInteger.valueOf(i + 1)).add(BigInteger.valueOf(i));
    }

    private static Pair pairWithScalars(String name, int n) {
        Pair x = new Pair(name);
        for (int i = 0; i < n; i++) {
            x.number(i, big(i));
        }
        return x;
    }

    private static void setup() {
        BigInteger[] secrets = {BigInteger.valueOf(3), BigInteger.ONE.shiftLeft(64),
            BigInteger.ONE.shiftLeft(64).subtract(BigInteger.ONE), BigInteger.ONE.shiftLeft(192), big(7)};
        for (BigInteger secret : secrets) {
            Pair x = new Pair("promise 16, secret " + secret);
            x.number(15, secret);
            x.done("setup", 15, 6);
            for (int i = 0; i < 6; i++) {
                x.call("set", 16 + i, 1);
                x.done("commit", 11, 16, 6);
                x.isPoint(11, PlainDesk.multiple(secret.modPow(BigInteger.valueOf(i), R), PlainDesk.G));
                x.call("set", 16 + i, 0);
            }
        }
    }

    private static void commit() {
        Pair x = pairWithScalars("promise 17", 20);
        x.call("setup", 19, 16);
        for (int n = 1; n <= 16; n++) {
            x.done("commit", 1, 2, n);
            x.seePoint(1);
        }
    }

    private static void open() {
        for (int n = 1; n <= 16; n++) {
            Pair x = pairWithScalars("promise 18, n " + n, 18);
            x.done("open", 1, n, 17, 31);
            for (int a = 0; a < 18; a++) {
                x.seeScalar(a);
            }
            x.seeScalar(31);
        }
    }

    private static void checks() {
        Pair x = pairWithScalars("promise 19", 8);
        x.number(20, big(33));
        x.number(21, big(44));
        x.call("setup", 21, 8);
        x.call("commit", 0, 0, 8);
        x.call("open", 0, 8, 20, 22);
        x.call("commit", 1, 0, 8);
        x.call(true, "checks", 0, 1, 20, 22, 21);
        x.call(false, "checks", 0, 1, 20, 22, 20);
        x.call(false, "checks", 0, 1, 21, 22, 20);
        x.call(false, "checks", 0, 1, 20, 21, 21);
        x.call(false, "checks", 1, 0, 20, 22, 21);
        x.call(false, "checks", 0, 2, 20, 22, 21);
        x.call(false, "checks", 2, 1, 20, 22, 21);
        x.call("set", 23, 1);
        x.call("reckon", 0, 24, 22, 23);
        x.call(false, "checks", 0, 1, 20, 24, 21);
        x.call("join", 3, 3, 2, 1);
        x.call(false, "checks", 0, 3, 20, 22, 21);
    }

    private static void transform() {
        for (int k = 0; k <= 4; k++) {
            for (int back = 0; back < 2; back++) {
                Pair x = pairWithScalars("promise 20, k " + k + ", back " + back, 18);
                x.done("transform", 1, k, back);
                for (int a = 0; a < 18; a++) {
                    x.seeScalar(a);
                }
                x.done("transform", 1, k, 1 - back);
                for (int a = 0; a < 18; a++) {
                    x.holds(a, big(a));
                }
            }
        }
    }

    /** The values at a place, times the polynomials there, are the value of the polynomial itself. */
    private static void lagrange() {
        for (int k = 0; k <= 4; k++) {
            Pair x = pairWithScalars("promise 21, k " + k, 16);
            BigInteger[] row = java.util.Arrays.copyOf(x.plain.scalars, 1 << k);
            x.number(20, big(33));
            x.call("transform", 0, k, 0);
            for (int i = 0; i < 1 << k; i++) {
                x.done("lagrange", 21, k, i, 20);
                x.seeScalar(21);
                x.call("reckon", 2, 22, 21, i);
                x.call("reckon", 0, 23, 23, 22);
            }
            x.holds(23, PlainDesk.valueAt(row, big(33)));
        }
    }
}
