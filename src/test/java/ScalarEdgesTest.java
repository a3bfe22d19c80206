import java.math.BigInteger;
import java.util.Arrays;

/** Promises 1 to 8 at their edges: a test of its own for each sentence that names one. */
public final class ScalarEdgesTest {
    private static final BigInteger R = PlainDesk.R;
    private static final BigInteger ZERO = BigInteger.ZERO;
    private static final BigInteger ONE = BigInteger.ONE;
    private static final BigInteger TWO = BigInteger.TWO;
    private static final BigInteger LAST = R.subtract(ONE);
    private static final long[] NEGATIVES = {-1, -2, Integer.MIN_VALUE, Long.MIN_VALUE + 1, Long.MIN_VALUE};
    private static final long EIGHT_BYTES = 0xf8e7d6c5b4a39281L;

    public static void main(String[] args) {
        allScalarsAre0();
        allPointsAreNothing();
        thereAreNoPowers();
        feedTakesOneToEightBytes();
        feedRefusesOtherCounts();
        feedFillsTheTapeTo96();
        feedRefusesAFullTape();
        numberTakes32BytesAtTheMost();
        numberIsFalseForMoreBytes();
        numberTakesWhatIsBelowR();
        numberIsFalseFromROn();
        numberOfNoByteIs0();
        setTakesFrom0On();
        setRefusesBelow0();
        wordReadsEightWords();
        wordRefusesOthers();
        reckonWrapsAroundAtR();
        reckonReadsBeforeItWrites();
        reckonRefusesOtherKinds();
        reckonRefusesToDivideBy0();
        powerOfNoughtTimesIs1();
        powerTakesTheGreatestExponent();
        powerRefusesBelow0();
        unityOfBothEnds();
        unityRefusesOthers();
        Pair.end();
    }

    /** Promise 1: "All scalars are 0". */
    private static void allScalarsAre0() {
        Pair x = new Pair("promise 1, all scalars are 0");
        for (int a = 0; a < 32; a++) {
            x.holds(a, ZERO);
        }
    }

    /** Promise 1: "all points nothing"; Terms: the tape and OUT have no bytes at first. */
    private static void allPointsAreNothing() {
        Pair x = new Pair("promise 1, all points are nothing");
        x.call(0, "look", 1);
        x.call(0, "look", 2);
        x.refused("NoSuchElementException", "out", 0);
        for (int p = 0; p < 12; p++) {
            x.isPoint(p, null);
        }
    }

    /** Promise 1: "there are no powers". */
    private static void thereAreNoPowers() {
        Pair x = new Pair("promise 1, there are no powers");
        x.call(0, "look", 0);
        x.refused("IllegalStateException", "commit", 0, 0, 1);
        x.done("commit", 0, 0, 0);
        x.isPoint(0, null);
    }

    /** Promise 2: "The n lowest bytes of v, lowest first, come behind the tape: how many it has." */
    private static void feedTakesOneToEightBytes() {
        for (int n = 1; n <= 8; n++) {
            Pair x = new Pair("promise 2, the " + n + " lowest bytes");
            BigInteger lowest = new BigInteger(Long.toUnsignedString(EIGHT_BYTES)).mod(ONE.shiftLeft(8 * n));
            x.call(n, "feed", n, EIGHT_BYTES);
            x.call(2 * n, "feed", n, EIGHT_BYTES);
            x.call(2 * n + 1, "feed", 1, 0x105);
            x.call(true, "number", 3);
            x.holds(3, BigInteger.valueOf(5).shiftLeft(16 * n).add(lowest.shiftLeft(8 * n)).add(lowest));
        }
    }

    /** Promise 2: "Throws IllegalArgumentException when n is not 1 .. 8". */
    private static void feedRefusesOtherCounts() {
        Pair x = Pair.furnished("promise 2, n is not 1 .. 8");
        for (int n : Pair.outside(1, 8)) {
            x.illegal("feed", n, EIGHT_BYTES);
        }
        x.call(5, "look", 1);
        x.seeWhole();
    }

    /** Promise 2: "when it would have more than 96": a tape of 96 bytes is still taken, by any count. */
    private static void feedFillsTheTapeTo96() {
        byte[] form = PlainDesk.form(PlainDesk.G, false);
        for (int last = 1; last <= 8; last++) {
            Pair x = new Pair("promise 2, the last " + last + " bytes of 96");
            x.feedBytes(Arrays.copyOf(form, 96 - last));
            x.call(96 - last, "look", 1);
            for (int n = last + 1; n <= 8; n++) {
                x.refused("IllegalStateException", "feed", n, EIGHT_BYTES);
            }
            x.feedBytes(Arrays.copyOfRange(form, 96 - last, 96));
            x.call(96, "look", 1);
            x.call(0, "point", 2);
            x.isPoint(2, PlainDesk.G);
        }
    }

    /** Promise 2: "IllegalStateException when it would have more than 96", and nothing has changed. */
    private static void feedRefusesAFullTape() {
        Pair x = Pair.furnished("promise 2, a full tape");
        x.call(1, "point", 0);
        x.feedBytes(PlainDesk.form(PlainDesk.minus(PlainDesk.G), false));
        for (int n = 1; n <= 8; n++) {
            x.refused("IllegalStateException", "feed", n, EIGHT_BYTES);
        }
        x.call(96, "look", 1);
        x.seeWhole();
        x.call(1, "feed", 1, 0);
    }

    /** Promise 3: "its first byte lowest, which is used up: true". */
    private static void numberTakes32BytesAtTheMost() {
        for (int size : new int[] {1, 2, 8, 31, 32}) {
            Pair x = new Pair("promise 3, " + size + " bytes");
            byte[] bytes = new byte[size];
            bytes[0] = (byte) 0xfe;
            bytes[size - 1] += 0x61;
            x.feedBytes(bytes);
            x.call(true, "number", 31);
            x.call(0, "look", 1);
            x.holds(31, BigInteger.valueOf(0x61).shiftLeft(8 * size - 8).add(BigInteger.valueOf(0xfe)).mod(ONE.shiftLeft(8 * size)));
        }
    }

    /** Promise 3: "false when it has more than 32 bytes", whatever they are, "(then only the tape changes)". */
    private static void numberIsFalseForMoreBytes() {
        Pair x = Pair.furnished("promise 3, more than 32 bytes");
        x.call(true, "number", 9);
        for (int size : new int[] {33, 34, 48, 95, 96}) {
            x.feedBytes(new byte[size]);
            x.call(false, "number", 7);
            x.call(0, "look", 1);
        }
        x.feedBytes(new byte[32]);
        x.feedBytes((byte) 1);
        x.call(false, "number", 7);
        x.seeWhole();
    }

    /** Promise 3: the numbers "below R", up to R - 1. */
    private static void numberTakesWhatIsBelowR() {
        BigInteger[] below = {LAST, R.subtract(TWO), R.subtract(ONE.shiftLeft(32)), R.subtract(ONE.shiftLeft(252)), ONE.shiftLeft(254)};
        Pair x = new Pair("promise 3, below R");
        for (BigInteger n : below) {
            x.feedNumber(n);
            x.call(true, "number", 4);
            x.call(0, "look", 1);
            x.holds(4, n);
        }
    }

    /** Promise 3: false when "that is not below R (then only the tape changes)". */
    private static void numberIsFalseFromROn() {
        BigInteger[] others = {R, R.add(ONE), R.add(ONE.shiftLeft(28)), R.add(ONE.shiftLeft(224)), R.shiftLeft(1),
            ONE.shiftLeft(255).subtract(ONE), ONE.shiftLeft(255), ONE.shiftLeft(256).subtract(ONE)};
        Pair x = Pair.furnished("promise 3, not below R");
        x.call(true, "number", 9);
        for (BigInteger n : others) {
            x.feedNumber(n);
            x.call(false, "number", 7);
            x.call(0, "look", 1);
        }
        x.seeWhole();
    }

    /** Promise 3: "A scalar becomes the tape as a number": a tape of no bytes is 0. */
    private static void numberOfNoByteIs0() {
        Pair x = Pair.furnished("promise 3, an empty tape");
        x.call(true, "number", 9);
        x.call(true, "number", 7);
        x.holds(7, ZERO);
        x.seeWhole();
    }

    /** Promise 4: "A scalar becomes v", from 0 on up to the greatest long. */
    private static void setTakesFrom0On() {
        Pair x = new Pair("promise 4, v from 0 on");
        for (long v : new long[] {0, 1, (1L << 28) - 1, 1L << 28, 1L << 32, 1L << 56, Long.MAX_VALUE}) {
            x.number(7, LAST);
            x.done("set", 7, v);
            x.holds(7, BigInteger.valueOf(v));
        }
    }

    /** Promise 4: "Throws IllegalArgumentException also when v is below 0." */
    private static void setRefusesBelow0() {
        Pair x = Pair.furnished("promise 4, v below 0");
        for (long v : NEGATIVES) {
            x.illegal("set", 7, v);
        }
        x.seeWhole();
    }

    /** Promise 5: "Bits 32 * k to 32 * k + 31 of a scalar", k 0 and k 7 among them. */
    private static void wordReadsEightWords() {
        Pair x = new Pair("promise 5, k 0 .. 7");
        x.number(1, PlainDesk.hex("73eda752ffffffff80000000000000010000000089abcdeffedcba9812345678"));
        long[] words = {0x12345678L, 0xfedcba98L, 0x89abcdefL, 0, 1, 0x80000000L, 0xffffffffL, 0x73eda752L};
        for (int k = 0; k < 8; k++) {
            x.call(words[k], "word", 1, k);
        }
    }

    /** Promise 5: "Throws IllegalArgumentException also when k is not 0 .. 7." */
    private static void wordRefusesOthers() {
        Pair x = Pair.furnished("promise 5, k is not 0 .. 7");
        for (int k : Pair.outside(0, 7)) {
            x.illegal("word", 7, k);
        }
        x.seeWhole();
    }

    private static void reckoned(Pair x, BigInteger want, int what, BigInteger b, BigInteger c) {
        x.number(1, b);
        x.number(2, c);
        x.done("reckon", what, 3, 1, 2);
        x.holds(3, want);
        x.holds(1, b);
        x.holds(2, c);
    }

    /** Terms: "numbers 0 .. R - 1, reckoned modulo R"; promise 6: each kind at both ends of them. */
    private static void reckonWrapsAroundAtR() {
        Pair sums = new Pair("promise 6, sums and differences modulo R");
        reckoned(sums, ZERO, 0, LAST, ONE);
        reckoned(sums, LAST, 0, LAST, ZERO);
        reckoned(sums, LAST, 0, R.subtract(TWO), ONE);
        reckoned(sums, R.subtract(TWO), 0, LAST, LAST);
        reckoned(sums, LAST, 1, ZERO, ONE);
        reckoned(sums, ZERO, 1, LAST, LAST);
        reckoned(sums, ONE, 1, ZERO, LAST);
        reckoned(sums, LAST, 1, LAST, ZERO);
        Pair products = new Pair("promise 6, products and quotients modulo R");
        reckoned(products, ONE, 2, LAST, LAST);
        reckoned(products, ZERO, 2, ZERO, LAST);
        reckoned(products, LAST, 2, LAST, ONE);
        reckoned(products, ZERO, 3, ZERO, LAST);
        reckoned(products, ONE, 3, LAST, LAST);
        reckoned(products, LAST, 3, ONE, LAST);
        reckoned(products, LAST, 3, LAST, ONE);
        reckoned(products, R.add(ONE).shiftRight(1), 3, ONE, TWO);
    }

    /** Promise 6: "a becomes" what b and c were, also when they are the same scalars. */
    private static void reckonReadsBeforeItWrites() {
        BigInteger[] ofSelf = {BigInteger.valueOf(12), ZERO, BigInteger.valueOf(36), ONE};
        BigInteger[] ofBoth = {BigInteger.valueOf(9), BigInteger.valueOf(3), BigInteger.valueOf(18), TWO};
        for (int what = 0; what < 4; what++) {
            Pair x = new Pair("promise 6, the same scalars, what " + what);
            x.call("set", 1, 6);
            x.call("set", 2, 3);
            x.done("reckon", what, 1, 1, 2);
            x.holds(1, ofBoth[what]);
            x.call("set", 1, 6);
            x.done("reckon", what, 2, 1, 2);
            x.holds(2, ofBoth[what]);
            x.done("reckon", what, 1, 1, 1);
            x.holds(1, ofSelf[what]);
        }
    }

    /** Promise 6: "Throws IllegalArgumentException also for another what". */
    private static void reckonRefusesOtherKinds() {
        Pair x = Pair.furnished("promise 6, another what");
        for (int what : Pair.outside(0, 3)) {
            x.illegal("reckon", what, 1, 2, 3);
            x.illegal("reckon", what, 1, 2, Pair.ZERO);
        }
        x.seeWhole();
    }

    /** Promise 6: "ArithmeticException when it divides by 0", and only then. */
    private static void reckonRefusesToDivideBy0() {
        Pair x = Pair.furnished("promise 6, a division by 0");
        x.refused("ArithmeticException", "reckon", 3, 1, 2, Pair.ZERO);
        x.refused("ArithmeticException", "reckon", 3, 1, Pair.ZERO, Pair.ZERO);
        x.refused("ArithmeticException", "reckon", 3, Pair.ZERO, 1, Pair.ZERO);
        x.seeWhole();
        Pair y = Pair.furnished("promise 6, 0 elsewhere");
        y.done("reckon", 0, 1, 2, Pair.ZERO);
        y.done("reckon", 1, 2, 3, Pair.ZERO);
        y.done("reckon", 2, 3, 4, Pair.ZERO);
        y.holds(3, ZERO);
        y.done("reckon", 3, 4, Pair.ZERO, 5);
        y.holds(4, ZERO);
        y.seeWhole();
    }

    /** Promise 7: "a becomes b to the n (1 for n 0)", 0 to the 0 too. */
    private static void powerOfNoughtTimesIs1() {
        Pair x = new Pair("promise 7, n 0 and n 1");
        BigInteger[] some = {ZERO, ONE, TWO, LAST};
        for (BigInteger b : some) {
            x.number(1, b);
            x.done("power", 2, 1, 0);
            x.holds(2, ONE);
            x.done("power", 2, 1, 1);
            x.holds(2, b);
            x.done("power", 1, 1, 0);
            x.holds(1, ONE);
        }
    }

    /** Promise 7: n up to the greatest long, of all bits and of one. */
    private static void powerTakesTheGreatestExponent() {
        Pair x = new Pair("promise 7, great exponents");
        BigInteger[] some = {ZERO, ONE, BigInteger.valueOf(7), LAST};
        for (BigInteger b : some) {
            x.number(1, b);
            for (long n : new long[] {2, (1L << 28) + 1, 1L << 62, Long.MAX_VALUE - 1, Long.MAX_VALUE}) {
                x.done("power", 2, 1, n);
                x.holds(2, b.modPow(BigInteger.valueOf(n), R));
            }
            x.done("power", 1, 1, Long.MAX_VALUE);
            x.holds(1, b.modPow(BigInteger.valueOf(Long.MAX_VALUE), R));
        }
    }

    /** Promise 7: "Throws IllegalArgumentException also when n is below 0." */
    private static void powerRefusesBelow0() {
        Pair x = Pair.furnished("promise 7, n below 0");
        for (long n : NEGATIVES) {
            x.illegal("power", 7, 8, n);
            x.illegal("power", 7, 7, n);
        }
        x.seeWhole();
    }

    /** Promise 8: "a becomes unity k"; Terms: "UNITY k (0 .. 32): 7 to the (R - 1) / 2^k, modulo R." */
    private static void unityOfBothEnds() {
        Pair x = new Pair("promise 8, k 0 .. 32");
        BigInteger unity = PlainDesk.hex("16a2a19edfe81f20d09b681922c813b4b63683508c2280b93829971f439f0d2b");
        for (int k = 32; k >= 0; k--) {
            x.done("unity", k % 32, k);
            x.holds(k % 32, unity);
            unity = unity.multiply(unity).mod(R);
        }
        x.holds(1, LAST);
        x.holds(0, ONE);
    }

    /** Promise 8: "Throws IllegalArgumentException also when k is not 0 .. 32." */
    private static void unityRefusesOthers() {
        Pair x = Pair.furnished("promise 8, k is not 0 .. 32");
        for (int k : Pair.outside(0, 32)) {
            x.illegal("unity", 7, k);
        }
        x.illegal("unity", 7, 64);
        x.seeWhole();
    }
}
