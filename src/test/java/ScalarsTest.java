import java.math.BigInteger;

/** Promises 1 to 8: a new object, feed, number, set, word, reckon, power and unity. */
public final class ScalarsTest {
    private static final BigInteger R = PlainDesk.R;
    private static final int[] NO_SCALARS = {-1, 32, 33, Integer.MIN_VALUE, Integer.MAX_VALUE};

    public static void main(String[] args) {
        newObject();
        feed();
        number();
        setAndWord();
        reckon();
        power();
        unity();
        Pair.end();
    }

    private static void newObject() {
        Pair x = new Pair("promise 1");
        x.call(0, "look", 0);
        x.call(0, "look", 1);
        x.call(0, "look", 2);
        x.call("throws.NoSuchElementException", "out", 0);
        for (int a = 0; a < 32; a++) {
            x.call(0, "word", a, 0);
        }
        for (int p = 0; p < 12; p++) {
            x.seePoint(p);
            x.call(true, "same", p, 0);
        }
        x.call("throws.IllegalStateException", "commit", 0, 0, 1);
    }

    private static void feed() {
        Pair x = new Pair("promise 2");
        x.illegal("feed", 0, 5);
        x.illegal("feed", 9, 5);
        x.illegal("feed", -1, 5);
        x.illegal("feed", Integer.MAX_VALUE, 5);
        x.illegal("feed", Integer.MIN_VALUE, 5);
        x.call(0, "look", 1);
        x.call(3, "feed", 3, 0x7700000000030201L);
        x.call(4, "feed", 1, -1L);
        x.call(true, "number", 0);
        x.call(0xff030201L, "word", 0, 0);
        x.call(0, "word", 0, 1);
        for (int i = 1; i <= 11; i++) {
            x.call(8 * i, "feed", 8, -i);
        }
        x.call(95, "feed", 7, 1);
        x.call("throws.IllegalStateException", "feed", 2, 1);
        x.call("throws.IllegalStateException", "feed", 8, 1);
        x.illegal("feed", 9, 1);
        x.call(95, "look", 1);
        x.call(96, "feed", 1, 1);
        x.call("throws.IllegalStateException", "feed", 1, 1);
        x.illegal("feed", 0, 1);
        x.call(96, "look", 1);
        x.call(false, "number", 1);
        x.call(1, "feed", 1, 1);
    }

    private static void number() {
        Pair x = new Pair("promise 3");
        x.call("set", 4, 8);
        x.call(true, "number", 4);
        x.seeScalar(4);
        for (BigInteger n : new BigInteger[] {BigInteger.ZERO, BigInteger.ONE, R.subtract(BigInteger.ONE), R,
                R.add(BigInteger.ONE), BigInteger.ONE.shiftLeft(256).subtract(BigInteger.ONE), BigInteger.ONE.shiftLeft(255)}) {
            x.call("set", 31, 77);
            x.number(31, n);
            x.call(0, "look", 1);
            x.seeScalar(31);
        }
        x.call("set", 2, 9);
        x.feedBytes(new byte[32]);
        x.feedBytes((byte) 0);
        x.call(false, "number", 2);
        x.call(0, "look", 1);
        x.call(9, "word", 2, 0);
        x.call("feed", 5, 0x123456789aL);
        for (int a : NO_SCALARS) {
            x.illegal("number", a);
        }
        x.call(5, "look", 1);
        x.call(true, "number", 0);
        x.seeScalar(0);
    }

    private static void setAndWord() {
        Pair x = new Pair("promises 4 and 5");
        for (long v : new long[] {0, 1, (1L << 28) - 1, 1L << 28, 1L << 32, 1L << 56, Long.MAX_VALUE, 0x123456789abcdefL}) {
            x.number(7, R.subtract(BigInteger.TWO));
            x.call("set", 7, v);
            x.seeScalar(7);
        }
        x.illegal("set", 7, -1);
        x.illegal("set", 7, Long.MIN_VALUE);
        x.illegal("word", 7, -1);
        x.illegal("word", 7, 8);
        x.illegal("word", 7, Integer.MAX_VALUE);
        x.illegal("word", 7, Integer.MIN_VALUE);
        for (int a : NO_SCALARS) {
            x.illegal("set", a, 1);
            x.illegal("word", a, 0);
        }
        x.seeScalar(7);
    }

    private static void reckon() {
        Pair x = new Pair("promise 6");
        BigInteger[] some = {BigInteger.ZERO, BigInteger.ONE, BigInteger.TWO, R.subtract(BigInteger.ONE),
            R.shiftRight(1), R.shiftRight(1).add(BigInteger.ONE), R.multiply(BigInteger.valueOf(5)).divide(BigInteger.valueOf(7))};
        for (BigInteger b : some) {
            for (BigInteger c : some) {
                Pair y = new Pair("promise 6, " + b + ", " + c);
                y.number(1, b);
                y.number(2, c);
                for (int what = 0; what < 4; what++) {
                    y.call("reckon", what, 3, 1, 2);
                    y.seeScalar(3);
                    y.call("reckon", what, 3, 1, 1);
                    y.seeScalar(3);
                }
                y.call("reckon", 2, 1, 1, 2);
                y.call("reckon", 1, 2, 1, 2);
                y.call("reckon", 3, 1, 1, 1);
                y.seeScalar(1);
                y.seeScalar(2);
            }
        }
        x.call("set", 1, 5);
        x.call("set", 3, 6);
        x.call("throws.ArithmeticException", "reckon", 3, 3, 1, 0);
        x.call("throws.ArithmeticException", "reckon", 3, 3, 0, 0);
        x.illegal("reckon", 4, 3, 1, 0);
        x.illegal("reckon", -1, 3, 1, 0);
        x.illegal("reckon", Integer.MIN_VALUE, 3, 1, 1);
        for (int a : NO_SCALARS) {
            x.illegal("reckon", 3, a, 1, 0);
            x.illegal("reckon", 3, 3, a, 0);
            x.illegal("reckon", 3, 3, 1, a);
        }
        x.call(6, "word", 3, 0);
    }

    private static void power() {
        Pair x = new Pair("promise 7");
        x.number(1, R.subtract(BigInteger.valueOf(12345)));
        for (long n : new long[] {0, 1, 2, 3, 28, 1L << 28, 1L << 56, Long.MAX_VALUE}) {
            x.call("power", 2, 1, n);
            x.seeScalar(2);
        }
        x.call("power", 3, 4, 0);
        x.call(1, "word", 3, 0);
        x.call("power", 3, 4, 1);
        x.call(0, "word", 3, 0);
        x.call("power", 1, 1, 5);
        x.seeScalar(1);
        x.illegal("power", 1, 2, -1);
        x.illegal("power", 1, 2, Long.MIN_VALUE);
        for (int a : NO_SCALARS) {
            x.illegal("power", a, 2, 1);
            x.illegal("power", 1, a, 1);
        }
        x.seeScalar(1);
    }

    private static void unity() {
        Pair x = new Pair("promise 8");
        for (int k = 0; k <= 32; k++) {
            x.call("unity", k % 32, k);
            x.seeScalar(k % 32);
        }
        x.illegal("unity", 0, -1);
        x.illegal("unity", 0, 33);
        x.illegal("unity", 0, Integer.MAX_VALUE);
        x.illegal("unity", 0, Integer.MIN_VALUE);
        for (int a : NO_SCALARS) {
            x.illegal("unity", a, 1);
        }
        x.seeScalar(0);
    }
}
