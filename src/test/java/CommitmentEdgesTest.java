import java.math.BigInteger;
import java.util.Arrays;

/** Promises 16 to 22 at their edges: a test of its own for each sentence that names one. */
public final class CommitmentEdgesTest {
    private static final BigInteger R = PlainDesk.R;
    private static final BigInteger ZERO = BigInteger.ZERO;
    private static final BigInteger ONE = BigInteger.ONE;
    private static final BigInteger[] G = PlainDesk.G;

    public static void main(String[] args) {
        setupOfOneToSixteenPowers();
        setupOfSecretsAtBothEnds();
        setupAgain();
        setupRefusesOtherCounts();
        commitOfNoTerms();
        commitOfNoTermsAsksForItsPoint();
        commitUpToTheLastScalar();
        commitRefusesOtherCounts();
        commitRefusesScalarsThatAreNot();
        commitRefusesFewerPowers();
        openLeavesTheHighest0();
        openAtRootsAndAt0();
        openReadsZFirstAndWritesYLast();
        openUpToTheLastScalar();
        openRefusesOtherCounts();
        openRefusesScalarsThatAreNot();
        checksWithNothingAndNoughts();
        checksWrapsAround();
        checksChangesNothing();
        transformOfOneScalarToSixteen();
        transformUpToTheLastScalar();
        transformRefusesOtherSizes();
        transformRefusesScalarsThatAreNot();
        lagrangeAtTheRoots();
        lagrangeElsewhere();
        lagrangeRefusesOtherSizes();
        lagrangeRefusesOtherPlaces();
        lookAtThreeThings();
        lookRefusesOthers();
        Pair.end();
    }

    private static BigInteger[] timesG(BigInteger s) {
        return PlainDesk.multiple(s.mod(R), G);
    }

    /** Puts power i into P11: 1 times it, and 0 times all before it; A16 .. A31 hold the numbers for it. */
    private static void seePower(Pair x, int i, BigInteger[] want) {
        for (int a = 0; a <= i; a++) {
            x.call("set", 16 + a, a == i ? 1 : 0);
        }
        x.done("commit", 11, 16, i + 1);
        x.isPoint(11, want);
    }

    /** Promise 16: "The powers become n points: G times 1, a, a squared ..", n from 1 to 16. */
    private static void setupOfOneToSixteenPowers() {
        BigInteger secret = R.divide(BigInteger.valueOf(3));
        for (int n = 1; n <= 16; n++) {
            Pair x = new Pair("promise 16, n " + n);
            x.number(2, secret);
            x.done("setup", 2, n);
            x.call(n, "look", 0);
            seePower(x, 0, G);
            seePower(x, n - 1, timesG(secret.pow(n - 1)));
            seePower(x, n / 2, timesG(secret.pow(n / 2)));
            if (n < 16) {
                x.refused("IllegalStateException", "commit", 11, 0, n + 1);
            }
            x.holds(2, secret);
        }
    }

    /** Promise 16: a 0 (1, then nothing), 1 and R - 1. */
    private static void setupOfSecretsAtBothEnds() {
        BigInteger[][][] want = {{G, null, null}, {G, G, G}, {G, PlainDesk.minus(G), G}};
        BigInteger[] secrets = {ZERO, ONE, R.subtract(ONE)};
        for (int k = 0; k < 3; k++) {
            Pair x = new Pair("promise 16, secret " + secrets[k]);
            x.number(2, secrets[k]);
            x.done("setup", 2, 16);
            for (int i = 0; i < 3; i++) {
                seePower(x, i, want[k][i]);
            }
            seePower(x, 15, want[k][1]);
        }
    }

    /** Promise 16: a later setup leaves none of the former powers, fewer or more. */
    private static void setupAgain() {
        for (int n : new int[] {1, 4, 6, 16}) {
            Pair x = Pair.furnished("promise 16, again, n " + n);
            x.done("setup", 3, n);
            x.call(n, "look", 0);
            if (n < 16) {
                x.refused("IllegalStateException", "commit", 0, 0, n + 1);
            }
            x.seeWhole();
        }
    }

    /** Promise 16: "Throws IllegalArgumentException also when n is not 1 .. 16." */
    private static void setupRefusesOtherCounts() {
        Pair x = Pair.furnished("promise 16, n is not 1 .. 16");
        for (int n : Pair.outside(1, 16)) {
            x.illegal("setup", 3, n);
        }
        x.call(Pair.POWERS, "look", 0);
        x.refused("IllegalStateException", "commit", 0, 0, Pair.POWERS + 1);
        x.seeWhole();
    }

    /**
     * Promise 17: "or one of these scalars is none": they are the scalars a + i, for i from 0 to n - 1, so
     * that n 0 asks for none of them, nor for a power; the sum is nothing.
     */
    private static void commitOfNoTerms() {
        Pair x = Pair.furnished("promise 17, n 0");
        Pair y = new Pair("promise 17, n 0 and no powers");
        for (int a : new int[] {-1, 0, 31, 32, Integer.MIN_VALUE, Integer.MAX_VALUE}) {
            for (Pair each : new Pair[] {x, y}) {
                each.call("join", 1, 3, 0, 0);
                each.done("commit", 3, a, 0);
                each.call(true, "same", 3, Pair.NOTHING);
            }
        }
        x.seeWhole();
        y.seeWhole();
    }

    /** Promise 9 of promise 17: "(as all calls that name some do)": the point is asked for with n 0 too. */
    private static void commitOfNoTermsAsksForItsPoint() {
        Pair x = Pair.furnished("promise 17, n 0 and no such point");
        Pair y = new Pair("promise 17, n 0, no such point, no powers");
        for (int none : Pair.NO_POINTS) {
            for (int a : new int[] {-1, 0, 31, 32}) {
                x.illegal("commit", none, a, 0);
                y.illegal("commit", none, a, 0);
            }
        }
        x.seeWhole();
        y.seeWhole();
    }

    /** Promise 17: "the sum of scalar a + i times power i, for i from 0 to n - 1", up to A31. */
    private static void commitUpToTheLastScalar() {
        for (int n = 1; n <= 16; n++) {
            Pair x = Pair.furnished("promise 17, n " + n);
            x.done("setup", 3, 16);
            BigInteger secret = x.plain.scalars[3];
            for (int a : new int[] {0, 32 - n}) {
                BigInteger[] row = Arrays.copyOfRange(x.plain.scalars, a, a + n);
                x.done("commit", 7, a, n);
                x.isPoint(7, timesG(PlainDesk.valueAt(row, secret)));
            }
            x.seeWhole();
        }
    }

    /** Promise 17: "Throws IllegalArgumentException also when n is not 0 .. 16". */
    private static void commitRefusesOtherCounts() {
        Pair x = Pair.furnished("promise 17, n is not 0 .. 16");
        x.call("setup", 3, 16);
        for (int n : Pair.outside(0, 16)) {
            x.illegal("commit", 7, 0, n);
            x.illegal("commit", 7, 31, n);
        }
        x.seeWhole();
    }

    /** Promise 17: "or one of these scalars is none": the first, the last, or all. */
    private static void commitRefusesScalarsThatAreNot() {
        Pair x = Pair.furnished("promise 17, one of these scalars is none");
        x.call("setup", 3, 16);
        for (int n : new int[] {1, 2, 15, 16}) {
            x.illegal("commit", 7, 33 - n, n);
            x.illegal("commit", 7, 32, n);
            x.illegal("commit", 7, -1, n);
            x.illegal("commit", 7, -n, n);
            x.illegal("commit", 7, Integer.MIN_VALUE, n);
            x.illegal("commit", 7, Integer.MAX_VALUE, n);
            x.illegal("commit", 7, Integer.MAX_VALUE - n + 1, n);
        }
        x.seeWhole();
    }

    /** Promise 17: "IllegalStateException when there are fewer than n powers": as many as n are enough. */
    private static void commitRefusesFewerPowers() {
        for (int count : new int[] {1, 2, 15, 16}) {
            Pair x = Pair.furnished("promise 17, " + count + " powers");
            x.call("setup", 3, count);
            for (int n = count + 1; n <= 16; n++) {
                x.refused("IllegalStateException", "commit", 7, 0, n);
            }
            x.seeWhole();
            x.done("commit", 7, 0, count);
        }
        Pair x = new Pair("promise 17, no powers");
        x.call("join", 1, 7, 0, 0);
        for (int n = 1; n <= 16; n++) {
            x.refused("IllegalStateException", "commit", 7, 0, n);
        }
        x.isPoint(7, G);
    }

    /** Promise 18: "they become those of its quotient by x - z (the highest one 0), and y its value at z." */
    private static void openLeavesTheHighest0() {
        for (int n = 1; n <= 16; n++) {
            Pair x = Pair.furnished("promise 18, n " + n);
            BigInteger[] had = x.plain.scalars.clone();
            BigInteger value = PlainDesk.valueAt(Arrays.copyOfRange(had, 3, 3 + n), had[21]);
            x.done("open", 3, n, 21, 22);
            x.holds(3 + n - 1, ZERO);
            x.holds(22, value);
            if (n > 1) {
                x.holds(3 + n - 2, had[3 + n - 1]);
            }
            x.seeWhole();
        }
    }

    /** Promise 18: z 0 (the coefficients go down by one place), and a z where the value is 0. */
    private static void openAtRootsAndAt0() {
        Pair x = new Pair("promise 18, z 0");
        for (int a = 0; a < 4; a++) {
            x.call("set", a, 5 + a);
        }
        x.done("open", 0, 4, 10, 11);
        x.holds(11, BigInteger.valueOf(5));
        for (int a = 0; a < 3; a++) {
            x.holds(a, BigInteger.valueOf(6 + a));
        }
        x.holds(3, ZERO);
        Pair y = new Pair("promise 18, z a root");
        y.number(0, R.subtract(BigInteger.valueOf(9)));
        y.call("set", 2, 1);
        y.call("set", 10, 3);
        y.call("set", 11, 77);
        y.done("open", 0, 3, 10, 11);
        y.holds(0, BigInteger.valueOf(3));
        y.holds(1, ONE);
        y.holds(2, ZERO);
        y.holds(11, ZERO);
    }

    /** Promise 18: "(z is read before anything changes; y is written last.)" */
    private static void openReadsZFirstAndWritesYLast() {
        int[][] overlaps = {{4, 4}, {4, 20}, {20, 4}, {7, 20}, {20, 7}, {7, 4}, {4, 7}, {20, 20}, {5, 5}, {7, 7}, {3, 8}, {8, 3}};
        for (int[] zy : overlaps) {
            Pair x = new Pair("promise 18, A4 .. A7, z " + zy[0] + ", y " + zy[1]);
            BigInteger[] due = new BigInteger[32];
            for (int a = 0; a < 32; a++) {
                due[a] = BigInteger.valueOf(10 + a * a);
                x.call("set", a, 10 + a * a);
            }
            BigInteger z = due[zy[0]];
            BigInteger value = PlainDesk.valueAt(Arrays.copyOfRange(due, 4, 8), z);
            BigInteger first = due[7].multiply(z).add(due[6]);
            due[4] = first.multiply(z).add(due[5]).mod(R);
            due[5] = first.mod(R);
            due[6] = due[7];
            due[7] = ZERO;
            due[zy[1]] = value;
            x.done("open", 4, 4, zy[0], zy[1]);
            for (int a = 0; a < 32; a++) {
                x.holds(a, due[a]);
            }
        }
    }

    /** Promise 18: the last n scalars are there; the last of them may be z, and y. */
    private static void openUpToTheLastScalar() {
        for (int n : new int[] {1, 2, 16}) {
            Pair x = Pair.furnished("promise 18, the last " + n);
            x.done("open", 32 - n, n, 31, 0);
            x.done("open", 32 - n, n, 0, 31);
            x.done("open", 0, n, 31, 31);
            x.seeWhole();
        }
    }

    /** Promise 18: "Throws IllegalArgumentException also when n is not 1 .. 16". */
    private static void openRefusesOtherCounts() {
        Pair x = Pair.furnished("promise 18, n is not 1 .. 16");
        for (int n : Pair.outside(1, 16)) {
            x.illegal("open", 3, n, 21, 22);
            x.illegal("open", 31, n, 3, 3);
        }
        x.seeWhole();
    }

    /** Promise 18: "or one of these scalars is none": the first, the last, or all. */
    private static void openRefusesScalarsThatAreNot() {
        Pair x = Pair.furnished("promise 18, one of these scalars is none");
        for (int n : new int[] {1, 2, 15, 16}) {
            x.illegal("open", 33 - n, n, 1, 2);
            x.illegal("open", 32, n, 1, 2);
            x.illegal("open", -1, n, 1, 2);
            x.illegal("open", -n, n, 1, 2);
            x.illegal("open", Integer.MIN_VALUE, n, 1, 2);
            x.illegal("open", Integer.MAX_VALUE, n, 1, 2);
            x.illegal("open", Integer.MAX_VALUE - n + 1, n, 1, 2);
            x.illegal("open", 3, n, 32, 2);
            x.illegal("open", 3, n, 1, 32);
        }
        x.seeWhole();
    }

    /** Promise 19: "Whether p less y times G is (t - z) times q": p or q nothing, y 0, t and z the same. */
    private static void checksWithNothingAndNoughts() {
        Pair x = new Pair("promise 19, nothing and noughts");
        x.call("set", 1, 1);
        x.call("set", 5, 5);
        x.call("join", 1, 0, 0, 0);
        x.call("times", 5, 5, 0);
        x.call(true, "checks", 11, 11, 0, 0, 0);
        x.call(true, "checks", 11, 11, 5, 0, 1);
        x.call(true, "checks", 11, 0, 5, 0, 5);
        x.call(false, "checks", 11, 0, 5, 0, 1);
        x.call(false, "checks", 0, 11, 5, 0, 1);
        x.call(true, "checks", 0, 11, 5, 1, 1);
        x.call(true, "checks", 5, 11, 1, 5, 0);
        x.call(false, "checks", 5, 11, 1, 1, 0);
        x.call(false, "checks", 11, 11, 1, 5, 0);
        x.call(true, "checks", 5, 0, 1, 5, 1);
        x.call(false, "checks", 5, 0, 0, 5, 1);
        x.call(true, "checks", 5, 0, 0, 0, 5);
        x.call(true, "checks", 0, 0, 0, 0, 1);
        x.call(true, "checks", 0, 0, 5, 1, 5);
    }

    /** Promise 19: t below z, and y R - 1, are reckoned modulo R. */
    private static void checksWrapsAround() {
        Pair x = new Pair("promise 19, modulo R");
        x.call("set", 1, 1);
        x.call("set", 5, 5);
        x.call("set", 6, 6);
        x.number(9, R.subtract(ONE));
        x.call("join", 1, 0, 0, 0);
        x.call("join", 3, 1, 11, 0);
        x.call("join", 2, 2, 0, 0);
        x.call(true, "checks", 1, 0, 6, 0, 5);
        x.call(false, "checks", 0, 0, 6, 0, 5);
        x.call(true, "checks", 0, 1, 6, 0, 5);
        x.call(true, "checks", 1, 0, 1, 9, 1);
        x.call(true, "checks", 11, 0, 0, 9, 1);
        x.call(true, "checks", 11, 0, 1, 1, 0);
        x.call(true, "checks", 2, 0, 9, 1, 0);
        x.call(true, "checks", 0, 0, 9, 9, 1);
        x.call(false, "checks", 2, 0, 9, 9, 1);
    }

    /** Promise 19 tells of an answer alone: true or false, nothing changes. */
    private static void checksChangesNothing() {
        Pair x = Pair.furnished("promise 19, nothing changes");
        x.call(false, "checks", 1, 2, 3, 4, 5);
        x.call(true, "checks", Pair.NOTHING, Pair.NOTHING, 3, Pair.ZERO, 5);
        x.call(true, "checks", 1, 2, 3, 1, 3);
        x.seeWhole();
    }

    /** Promise 20: "The 2^k scalars from a on (k 0 .. 4)": k 0 leaves the one as it is, 1 and -1 are k 1's places. */
    private static void transformOfOneScalarToSixteen() {
        Pair x = new Pair("promise 20, k 0 and k 1");
        x.call("set", 3, 10);
        x.call("set", 4, 4);
        x.done("transform", 3, 0, 0);
        x.holds(3, BigInteger.TEN);
        x.done("transform", 3, 0, 1);
        x.holds(3, BigInteger.TEN);
        x.done("transform", 3, 1, 0);
        x.holds(3, BigInteger.valueOf(14));
        x.holds(4, BigInteger.valueOf(6));
        x.done("transform", 3, 1, 1);
        x.holds(3, BigInteger.TEN);
        x.holds(4, BigInteger.valueOf(4));
        for (int k = 0; k <= 4; k++) {
            Pair y = Pair.furnished("promise 20, k " + k);
            BigInteger[] had = Arrays.copyOfRange(y.plain.scalars, 8, 8 + (1 << k));
            BigInteger root = PlainDesk.unityOf(k);
            y.done("transform", 8, k, 0);
            for (int i : new int[] {0, (1 << k) / 2, (1 << k) - 1}) {
                y.holds(8 + i, PlainDesk.valueAt(had, root.modPow(BigInteger.valueOf(i), R)));
            }
            y.seeWhole();
        }
    }

    /** Promise 20: the last 2^k scalars are there; back they become what they were. */
    private static void transformUpToTheLastScalar() {
        for (int k = 0; k <= 4; k++) {
            Pair x = Pair.furnished("promise 20, the last of k " + k);
            int a = 32 - (1 << k);
            BigInteger first = x.plain.scalars[a];
            BigInteger last = x.plain.scalars[31];
            x.done("transform", a, k, 0);
            x.done("transform", a, k, 1);
            x.holds(a, first);
            x.holds(31, last);
            x.done("transform", a, k, 1);
            x.seeWhole();
        }
    }

    /** Promise 20: "Throws IllegalArgumentException also when k is not 0 .. 4". */
    private static void transformRefusesOtherSizes() {
        Pair x = Pair.furnished("promise 20, k is not 0 .. 4");
        for (int back = 0; back < 2; back++) {
            for (int k : Pair.outside(0, 4)) {
                x.illegal("transform", 0, k, back);
            }
            x.illegal("transform", 0, 31, back);
            x.illegal("transform", 0, 32, back);
            x.illegal("transform", 0, 36, back);
        }
        x.seeWhole();
    }

    /** Promise 20: "or one of these scalars is none": the first, the last, or all. */
    private static void transformRefusesScalarsThatAreNot() {
        Pair x = Pair.furnished("promise 20, one of these scalars is none");
        for (int k = 0; k <= 4; k++) {
            int n = 1 << k;
            x.illegal("transform", 33 - n, k, 0);
            x.illegal("transform", 33 - n, k, 1);
            x.illegal("transform", 32, k, 0);
            x.illegal("transform", 32, k, 1);
            x.illegal("transform", -1, k, 0);
            x.illegal("transform", -1, k, 1);
            x.illegal("transform", -n, k, 0);
            x.illegal("transform", Integer.MIN_VALUE, k, 0);
            x.illegal("transform", Integer.MAX_VALUE, k, 1);
            x.illegal("transform", Integer.MAX_VALUE - n + 1, k, 0);
        }
        x.seeWhole();
    }

    /** Promise 21: "that is 1 at power i of unity k, and 0 at the others", all i and all powers. */
    private static void lagrangeAtTheRoots() {
        for (int k = 0; k <= 4; k++) {
            int n = 1 << k;
            for (int j = 0; j < n; j++) {
                Pair x = new Pair("promise 21, k " + k + " at power " + j);
                x.call("unity", 1, k);
                x.call("power", 2, 1, j);
                for (int i = 0; i < n; i++) {
                    x.call("set", 3, 9);
                    x.done("lagrange", 3, k, i, 2);
                    x.holds(3, i == j ? ONE : ZERO);
                }
                x.done("lagrange", 2, k, j, 2);
                x.holds(2, ONE);
            }
        }
    }

    /** Promise 21: "of degree below 2^k": at 0 it is 1 / 2^k; for k 0 it is 1 everywhere. */
    private static void lagrangeElsewhere() {
        for (int k = 0; k <= 4; k++) {
            BigInteger share = BigInteger.valueOf(1 << k).modInverse(R);
            Pair x = Pair.furnished("promise 21, elsewhere, k " + k);
            x.done("lagrange", 3, k, 0, Pair.ZERO);
            x.holds(3, share);
            x.done("lagrange", 31, k, (1 << k) - 1, Pair.ZERO);
            x.holds(31, share);
            x.done("lagrange", 0, k, (1 << k) - 1, 1);
            x.done("lagrange", 1, k, (1 << k) / 2, 1);
            if (k == 0) {
                x.holds(0, ONE);
                x.holds(1, ONE);
            }
            x.seeWhole();
        }
    }

    /** Promise 21: "Throws IllegalArgumentException also when k is not 0 .. 4". */
    private static void lagrangeRefusesOtherSizes() {
        Pair x = Pair.furnished("promise 21, k is not 0 .. 4");
        for (int k : Pair.outside(0, 4)) {
            x.illegal("lagrange", 3, k, 0, 4);
            x.illegal("lagrange", 3, k, 1, 3);
        }
        x.illegal("lagrange", 3, 31, 0, 4);
        x.illegal("lagrange", 3, 32, 0, 4);
        x.seeWhole();
    }

    /** Promise 21: "or i not 0 .. 2^k - 1." */
    private static void lagrangeRefusesOtherPlaces() {
        Pair x = Pair.furnished("promise 21, i is not 0 .. 2^k - 1");
        for (int k = 0; k <= 4; k++) {
            for (int i : Pair.outside(0, (1 << k) - 1)) {
                x.illegal("lagrange", 3, k, i, 4);
            }
        }
        x.seeWhole();
    }

    /** Promise 22: "0 powers, 1 bytes of the tape, 2 bytes of OUT": at their least and at their most. */
    private static void lookAtThreeThings() {
        Pair x = new Pair("promise 22, what 0 .. 2");
        for (int what = 0; what < 3; what++) {
            x.call(0, "look", what);
        }
        x.call("setup", 0, 16);
        x.call(16, "look", 0);
        x.call("setup", 0, 1);
        x.call(1, "look", 0);
        x.call("feed", 1, 0);
        x.call(1, "look", 1);
        x.feedBytes(new byte[95]);
        x.call(96, "look", 1);
        x.call(false, "number", 0);
        x.call(0, "look", 1);
        x.call("bytes", 0, 0);
        x.call(96, "look", 2);
        x.call("bytes", 0, 1);
        x.call(48, "look", 2);
        x.call(1, "look", 0);
        x.call(0, "look", 1);
    }

    /** Promise 22: "Throws IllegalArgumentException for another what." */
    private static void lookRefusesOthers() {
        Pair x = Pair.furnished("promise 22, another what");
        for (int what : Pair.outside(0, 2)) {
            x.illegal("look", what);
        }
        x.seeWhole();
    }
}
