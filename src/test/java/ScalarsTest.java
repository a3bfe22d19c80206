import java.math.BigInteger;

/** Promises 2 to 8 on ordinary inputs: feed, number, set, word, reckon, power and unity. */
public final class ScalarsTest {
    private static final BigInteger R = PlainDesk.R;

    public static void main(String[] args) {
        feedAndNumber();
        setAndWord();
        reckon();
        power();
        unity();
        Pair.end();
    }

    private static void feedAndNumber() {
        Pair x = new Pair("promises 2 and 3");
        x.call(3, "feed", 3, 0x7700000000030201L);
        x.call(4, "feed", 1, -1L);
        x.call(true, "number", 0);
        x.holds(0, BigInteger.valueOf(0xff030201L));
        for (int i = 1; i <= 12; i++) {
            BigInteger n = R.divide(BigInteger.valueOf(i * i)).subtract(BigInteger.valueOf(i));
            x.feedNumber(n);
            x.call(true, "number", i);
            x.holds(i, n);
        }
    }

    private static void setAndWord() {
        Pair x = new Pair("promises 4 and 5");
        for (int a = 0; a < 32; a++) {
            x.done("set", a, 0x123456789abcdefL * (a + 1) >>> 1);
        }
        for (int a = 0; a < 32; a++) {
            x.holds(a, BigInteger.valueOf(0x123456789abcdefL * (a + 1) >>> 1));
        }
    }

    private static void reckon() {
        BigInteger[] some = {BigInteger.ZERO, BigInteger.ONE, BigInteger.TWO, R.subtract(BigInteger.ONE),
            R.shiftRight(1), R.shiftRight(1).add(BigInteger.ONE), R.multiply(BigInteger.valueOf(5)).divide(BigInteger.valueOf(7))};
        for (BigInteger b : some) {
            for (BigInteger c : some) {
                Pair y = new Pair("promise 6, " + b + ", " + c);
                y.number(1, b);
                y.number(2, c);
                for (int what = 0; what < 4; what++) {
                    y.call("reckon", what, 3, 1, 2);
                    y.seeScalar(3);
                    y.call("reckon", what, 3, 1, 1);
                    y.seeScalar(3);
                }
                y.call("reckon", 2, 1, 1, 2);
                y.call("reckon", 1, 2, 1, 2);
                y.call("reckon", 3, 1, 1, 1);
                y.seeScalar(1);
                y.seeScalar(2);
            }
        }
    }

    private static void power() {
        Pair x = new Pair("promise 7");
        x.number(1, R.subtract(BigInteger.valueOf(12345)));
        for (long n : new long[] {2, 3, 28, 1000, 1L << 28, 1L << 56, 0x123456789abcdefL}) {
            x.done("power", 2, 1, n);
            x.holds(2, R.subtract(BigInteger.valueOf(12345)).modPow(BigInteger.valueOf(n), R));
        }
        x.done("power", 1, 1, 5);
        x.holds(1, BigInteger.valueOf(-12345).modPow(BigInteger.valueOf(5), R));
    }

    /** Unity k to the 2^(k - 1) is -1: no lower power of it is 1. */
    private static void unity() {
        Pair x = new Pair("promise 8");
        for (int k = 1; k <= 32; k++) {
            x.done("unity", 2, k);
            x.call("power", 3, 2, 1L << k - 1);
            x.holds(3, R.subtract(BigInteger.ONE));
        }
    }
}
