import java.math.BigInteger;
import java.util.Arrays;

/** Promises 9 to 15 at their edges: a test of its own for each sentence that names one. */
public final class PointEdgesTest {
    private static final BigInteger Q = PlainDesk.Q;
    private static final BigInteger R = PlainDesk.R;
    private static final BigInteger ZERO = BigInteger.ZERO;
    private static final BigInteger ONE = BigInteger.ONE;
    private static final BigInteger TWO = BigInteger.TWO;
    private static final BigInteger[] G = PlainDesk.G;
    private static final BigInteger[] MINUS_G = {G[0], Q.subtract(G[1])};
    private static final byte[] G_SHORT = bytesOf("97f1d3a73197d7942695638c4fa9ac0fc3688c4f9774b905a14e3a3f171bac586c55e83ff97a1aeffb3af00adb22c6bb");
    private static final byte[] MINUS_G_SHORT = bytesOf("b7f1d3a73197d7942695638c4fa9ac0fc3688c4f9774b905a14e3a3f171bac586c55e83ff97a1aeffb3af00adb22c6bb");
    private static final byte[] TWICE_G_SHORT = bytesOf("a572cbea904d67468808c8eb50a9450c9721db309128012543902d0ac358a62ae28f75bb8f1c7c42c39a8c5529bf0f4e");
    /** x 0 has the points y 2 and y Q - 2, whose triples are nothing: on the curve, not good. */
    private static final BigInteger[] OF_ORDER_3 = {ZERO, TWO};

    /** The pair that reads the forms with faults, until it has no room for one more. */
    private static Pair reader;

    public static void main(String[] args) {
        pointOfOtherLengths();
        pointOfMarksThatCannotBe();
        pointOfNothingWithAnotherBit();
        pointOfCoordinatesFromQOn();
        pointThatIsOnNoCurve();
        pointThatIsNotGood();
        pointWithTheFirstFaultOfSeveral();
        seeReader();
        pointOfGoodBytes();
        pointOfNothing();
        pointRefusedLeavesTheTape();
        bytesOfBothSizes();
        bytesOfNothing();
        bytesTellTheGreaterY();
        bytesWrittenLatest();
        outReadsZerosBehindTheEnd();
        outRefusesWhatIsNotThere();
        joinWithNothing();
        joinWithTheOpposite();
        joinWithItself();
        joinRefusesOtherKinds();
        timesBothEnds();
        combineOfNoTerms();
        combineOfTwelveTerms();
        combineReadsBeforeItWrites();
        combineRefusesOtherCounts();
        combineRefusesWhatIsNotThere();
        sameOfEqualAndOpposite();
        Pair.end();
    }

    private static byte[] bytesOf(String hex) {
        byte[] made = new byte[hex.length() / 2];
        for (int i = 0; i < made.length; i++) {
            made[i] = (byte) Integer.parseInt(hex.substring(2 * i, 2 * i + 2), 16);
        }
        return made;
    }

    private static byte[] longForm(BigInteger x, BigInteger y) {
        byte[] made = new byte[96];
        PlainDesk.putNumber(made, 0, x);
        PlainDesk.putNumber(made, 48, y);
        return made;
    }

    private static byte[] shortForm(BigInteger x, boolean greater) {
        byte[] made = Arrays.copyOf(longForm(x, x), 48);
        return marked(made, greater ? 5 : 4);
    }

    private static byte[] marked(byte[] form, int marks) {
        byte[] made = form.clone();
        made[0] = (byte) (made[0] & 31 | marks << 5);
        return made;
    }

    private static byte[] ones(int size) {
        byte[] made = new byte[size];
        Arrays.fill(made, (byte) 255);
        return made;
    }

    /** Reads a form with a fault; "then only the tape changes" is seen when the pair is full. */
    private static void fault(int want, String name, byte[] form) {
        int calls = (form.length + 7) / 8 + 2;
        if (reader != null && !reader.hasRoomFor(calls)) {
            seeReader();
        }
        if (reader == null) {
            reader = Pair.furnished("promise 9, from: " + name);
            reader.call(1, "point", 0);
        }
        reader.feedBytes(form);
        Pair.due(name, reader.call("point", 0), String.valueOf(want));
        reader.call(0, "look", 1);
    }

    private static void seeReader() {
        if (reader != null) {
            reader.seeWhole();
            reader = null;
        }
    }

    /** Promise 9: "1 it has neither 48 nor 96 bytes"; pointOfGoodBytes has the other side. */
    private static void pointOfOtherLengths() {
        byte[] form = longForm(G[0], G[1]);
        for (int size : new int[] {0, 1, 2, 32, 47, 49, 50, 94, 95}) {
            fault(1, "1: " + size + " bytes", Arrays.copyOf(form, size));
        }
        fault(1, "1: 47 bytes of a short form", Arrays.copyOf(G_SHORT, 47));
        fault(1, "1: 49 bytes, the first 48 a short form", Arrays.copyOf(G_SHORT, 49));
        fault(1, "1: 95 bytes, the first 48 a short form", Arrays.copyOf(G_SHORT, 95));
    }

    /** Promise 9: "2 the three bits can't be so". */
    private static void pointOfMarksThatCannotBe() {
        for (int marks : new int[] {0, 1, 2, 3, 7}) {
            fault(2, "2: marks " + marks + " of 48 bytes of G", marked(G_SHORT, marks));
            fault(2, "2: marks " + marks + " of 48 bytes of 0", marked(new byte[48], marks));
        }
        for (int marks : new int[] {1, 3, 4, 5, 6, 7}) {
            fault(2, "2: marks " + marks + " of 96 bytes of G", marked(longForm(G[0], G[1]), marks));
            fault(2, "2: marks " + marks + " of 96 bytes of 0", marked(new byte[96], marks));
        }
    }

    /** Promise 9: "3 for nothing: another bit is 1"; Terms: "For nothing all other bits are 0". */
    private static void pointOfNothingWithAnotherBit() {
        for (int size : new int[] {48, 96}) {
            byte[] nothing = marked(new byte[size], size == 48 ? 6 : 2);
            for (int bit = 3; bit < 8 * size; bit += bit < 8 || bit > 8 * size - 3 ? 1 : 37) {
                byte[] form = nothing.clone();
                form[bit / 8] |= (byte) (128 >> bit % 8);
                fault(3, "3: bit " + bit + " of " + size + " bytes of nothing", form);
            }
            fault(3, "3: all other bits of " + size + " bytes of nothing", marked(ones(size), size == 48 ? 6 : 2));
        }
        byte[] lastOfX = marked(new byte[96], 2);
        lastOfX[47] = 1;
        fault(3, "3: the last bit of x", lastOfX);
        byte[] firstOfY = marked(new byte[96], 2);
        firstOfY[48] = (byte) 128;
        fault(3, "3: the first bit of y", firstOfY);
    }

    /** Promise 9: "4 x, or y, is not below Q": Q - 1 is, and has another fault. */
    private static void pointOfCoordinatesFromQOn() {
        BigInteger below = Q.subtract(ONE);
        BigInteger most = ONE.shiftLeft(381).subtract(ONE);
        for (BigInteger x : new BigInteger[] {Q, Q.add(ONE), Q.add(ONE.shiftLeft(28)), Q.setBit(378), most}) {
            fault(4, "4: x is Q and " + x.subtract(Q) + ", short", shortForm(x, false));
            fault(4, "4: x is Q and " + x.subtract(Q) + ", short, greater", shortForm(x, true));
            fault(4, "4: x is Q and " + x.subtract(Q) + ", long", longForm(x, G[1]));
            fault(4, "4: y is Q and " + x.subtract(Q), longForm(G[0], x));
        }
        fault(4, "4: y is G's and Q", longForm(G[0], G[1].add(Q)));
        fault(4, "4: y has G's bits and the highest three", longForm(G[0], G[1].add(BigInteger.valueOf(7).shiftLeft(381))));
        fault(4, "4: y has G's bits and the highest", longForm(G[0], G[1].setBit(383)));
        fault(4, "4: all bits of both", marked(ones(96), 0));
        fault(5, "not 4: x is Q - 1, short", shortForm(below, false));
        fault(5, "not 4: x is Q - 1, short, greater", shortForm(below, true));
        fault(5, "not 4: x is Q - 1, long", longForm(below, G[1]));
        fault(5, "not 4: y is Q - 1", longForm(G[0], below));
        fault(5, "not 4: both are Q - 1", longForm(below, below));
    }

    /** Promise 9: "5 no point has this x (or x and y)". */
    private static void pointThatIsOnNoCurve() {
        for (int x = 1; x < 12; x++) {
            BigInteger at = BigInteger.valueOf(x);
            boolean there = PlainDesk.onCurve(at, PlainDesk.rootFor(at));
            fault(there ? 6 : 5, "5: x is " + x, shortForm(at, false));
            fault(there ? 6 : 5, "5: x is " + x + ", greater", shortForm(at, true));
            fault(5, "5: x and y are " + x, longForm(at, at));
        }
        fault(5, "5: y is one more", longForm(G[0], G[1].add(ONE)));
        fault(5, "5: y is one less", longForm(G[0], G[1].subtract(ONE)));
        fault(5, "5: x and y changed", longForm(G[1], G[0]));
        fault(5, "5: y is 0", longForm(G[0], ZERO));
        fault(5, "5: x is 0", longForm(ZERO, G[1]));
        fault(5, "5: both are 0", longForm(ZERO, ZERO));
    }

    /** Promise 9: "6 it is not good"; Terms: "A point is GOOD if R times it is nothing." */
    private static void pointThatIsNotGood() {
        BigInteger[] mixed = PlainDesk.sum(G, OF_ORDER_3);
        fault(6, "6: x is 0, short", shortForm(ZERO, false));
        fault(6, "6: x is 0, short, greater", shortForm(ZERO, true));
        fault(6, "6: x is 0, y is 2", longForm(ZERO, TWO));
        fault(6, "6: x is 0, y is Q - 2", longForm(ZERO, Q.subtract(TWO)));
        fault(6, "6: a good point and one of order 3, short", PlainDesk.form(mixed, true));
        fault(6, "6: a good point and one of order 3, long", PlainDesk.form(mixed, false));
    }

    /** Promise 9: "or the first that holds". */
    private static void pointWithTheFirstFaultOfSeveral() {
        BigInteger offCurve = Q.subtract(ONE);
        fault(1, "1 before 2: 47 bytes", ones(47));
        fault(1, "1 before 2: 95 bytes", ones(95));
        fault(1, "1 before 3: 49 bytes", marked(ones(49), 6));
        fault(1, "1 before 4: 95 bytes", marked(ones(95), 0));
        fault(2, "2 before 3: 48 bytes", ones(48));
        fault(2, "2 before 3: 96 bytes", ones(96));
        fault(2, "2 before 3: 96 bytes, as of a short form", marked(ones(96), 6));
        fault(2, "2 before 3: 48 bytes, as of a long form", marked(ones(48), 2));
        fault(2, "2 before 4: 48 bytes", marked(shortForm(Q, false), 0));
        fault(2, "2 before 4: 96 bytes", marked(longForm(Q, Q), 1));
        fault(2, "2 before 5: 48 bytes", marked(shortForm(offCurve, false), 1));
        fault(2, "2 before 5: 96 bytes", marked(longForm(offCurve, ONE), 4));
        fault(2, "2 before 6: 48 bytes", marked(shortForm(ZERO, false), 0));
        fault(2, "2 before 6: 96 bytes", marked(longForm(ZERO, TWO), 5));
        fault(3, "3 before 4: 48 bytes", marked(shortForm(Q, false), 6));
        fault(3, "3 before 4: 96 bytes, x", marked(longForm(Q, ZERO), 2));
        fault(3, "3 before 4: 96 bytes, y", marked(longForm(ZERO, Q.setBit(383)), 2));
        fault(3, "3 before 5: 48 bytes", marked(shortForm(offCurve, false), 6));
        fault(3, "3 before 6: 96 bytes", marked(longForm(ZERO, TWO), 2));
        fault(3, "3 before 0: 96 bytes", marked(longForm(G[0], G[1]), 2));
        fault(4, "4 before 5: x", longForm(Q.add(offCurve.shiftRight(8)), ONE));
        fault(4, "4 before 5: y", longForm(offCurve, Q));
        fault(4, "4 before 6: x", longForm(Q, TWO));
        fault(4, "4 before 6: x, short", shortForm(Q, false));
        fault(4, "4 before 6: y", longForm(ZERO, Q.add(TWO)));
    }

    private static void read(String name, byte[] form, BigInteger[] want) {
        Pair x = Pair.furnished("promise 9, " + name);
        x.call(1, "point", 0);
        x.feedBytes(form);
        x.call(0, "point", 7);
        x.call(0, "look", 1);
        x.isPoint(7, want);
        x.seeWhole();
    }

    /** Promise 9: "A point becomes what the tape, which is used up, is the bytes of: 0". */
    private static void pointOfGoodBytes() {
        read("48 bytes of G", G_SHORT, G);
        read("48 bytes of minus G", MINUS_G_SHORT, MINUS_G);
        read("48 bytes of twice G", TWICE_G_SHORT, PlainDesk.sum(G, G));
        read("96 bytes of G", longForm(G[0], G[1]), G);
        read("96 bytes of minus G", longForm(G[0], Q.subtract(G[1])), MINUS_G);
    }

    /** Promise 9, Terms: nothing's "three are 1, 1, 0, or 0, 1, 0". */
    private static void pointOfNothing() {
        read("48 bytes of nothing", marked(new byte[48], 6), null);
        read("96 bytes of nothing", marked(new byte[96], 2), null);
    }

    /** Promise 9: "Throws IllegalArgumentException when there is no such point": the tape is not used up. */
    private static void pointRefusedLeavesTheTape() {
        for (byte[] form : new byte[][] {MINUS_G_SHORT, longForm(G[0], Q.subtract(G[1])), ones(48)}) {
            Pair x = Pair.furnished("promise 9, no such point, " + form.length + " bytes");
            x.call(1, "point", 0);
            x.feedBytes(form);
            for (int p : Pair.NO_POINTS) {
                x.illegal("point", p);
            }
            x.call(form.length, "look", 1);
            x.seeWhole();
        }
    }

    /** Promise 10: "OUT becomes a point's 48 bytes, or its 96." */
    private static void bytesOfBothSizes() {
        Pair x = new Pair("promise 10, both sizes");
        for (int p : new int[] {0, 11}) {
            x.call("join", 1, p, 0, 0);
            x.done("bytes", p, 1);
            x.seeOut(G_SHORT);
            x.done("bytes", p, 0);
            x.seeOut(longForm(G[0], G[1]));
        }
    }

    /** Terms: "For nothing all other bits are 0 (its three are 1, 1, 0, or 0, 1, 0)." */
    private static void bytesOfNothing() {
        Pair x = new Pair("promise 10, nothing");
        x.done("bytes", 3, 1);
        x.seeOut(marked(new byte[48], 6));
        x.done("bytes", 3, 0);
        x.seeOut(marked(new byte[96], 2));
        x.call("join", 1, 3, 0, 0);
        x.call("join", 3, 3, 3, 3);
        x.done("bytes", 3, 1);
        x.seeOut(marked(new byte[48], 6));
        x.done("bytes", 3, 0);
        x.seeOut(marked(new byte[96], 2));
    }

    /** Terms: "1 if y is greater than Q - y", of 48 bytes; of 96 that bit is 0. */
    private static void bytesTellTheGreaterY() {
        Pair x = new Pair("promise 10, the greater y");
        x.call("join", 1, 0, 0, 0);
        x.call("join", 3, 1, 2, 0);
        x.call("join", 2, 2, 0, 0);
        x.done("bytes", 1, 1);
        x.seeOut(MINUS_G_SHORT);
        x.done("bytes", 1, 0);
        x.seeOut(longForm(G[0], Q.subtract(G[1])));
        x.done("bytes", 2, 1);
        x.seeOut(TWICE_G_SHORT);
    }

    /** Terms: "OUT the bytes that were written latest": shorter ones leave nothing of longer ones. */
    private static void bytesWrittenLatest() {
        Pair x = new Pair("promise 10, shorter after longer");
        x.call("join", 1, 0, 0, 0);
        x.done("bytes", 0, 0);
        x.done("bytes", 0, 1);
        x.call(48, "look", 2);
        x.call(G_SHORT[47] & 255L, "out", 47);
        x.refused("NoSuchElementException", "out", 48);
        x.call("join", 0, 0, 0, 0);
        x.seeOut(G_SHORT);
    }

    /** Promise 11: "Eight bytes of OUT from k on, the first one lowest (0 behind its end)." */
    private static void outReadsZerosBehindTheEnd() {
        for (byte[] form : new byte[][] {MINUS_G_SHORT, longForm(G[0], Q.subtract(G[1]))}) {
            Pair x = new Pair("promise 11, all k of " + form.length);
            x.call("join", 1, 0, 0, 0);
            x.call("join", 3, 0, 1, 0);
            x.call("bytes", 0, 0);
            x.call("bytes", 0, form.length == 48 ? 1 : 0);
            for (int k = 0; k < form.length; k++) {
                long eight = 0;
                for (int i = 7; i >= 0; i--) {
                    eight = eight << 8 | (k + i < form.length ? form[k + i] & 255 : 0);
                }
                x.call(eight, "out", k);
            }
        }
    }

    /** Promise 11: "Throws NoSuchElementException when there is no byte k." */
    private static void outRefusesWhatIsNotThere() {
        Pair empty = new Pair("promise 11, OUT has no byte");
        for (int k : new int[] {0, 1, 47, 48, 95, 96, -1, Integer.MIN_VALUE, Integer.MAX_VALUE}) {
            empty.refused("NoSuchElementException", "out", k);
        }
        empty.seeWhole();
        for (int size : new int[] {48, 96}) {
            Pair x = Pair.furnished("promise 11, no byte of " + size);
            x.call("bytes", 3, size == 48 ? 1 : 0);
            for (int k : Pair.outside(0, size - 1)) {
                x.refused("NoSuchElementException", "out", k);
            }
            for (int k = -8; k < 0; k++) {
                x.refused("NoSuchElementException", "out", k);
                x.refused("NoSuchElementException", "out", size - k);
            }
            x.seeWhole();
        }
    }

    /** Terms: "The SUM of points: with nothing, the other one"; promise 12: nothing, and G. */
    private static void joinWithNothing() {
        Pair x = new Pair("promise 12, sums with nothing");
        x.done("join", 1, 0, 5, 6);
        x.isPoint(0, G);
        x.done("join", 2, 1, 0, 11);
        x.isPoint(1, G);
        x.done("join", 2, 2, 11, 0);
        x.isPoint(2, G);
        x.done("join", 3, 3, 0, 11);
        x.isPoint(3, G);
        x.done("join", 3, 4, 11, 0);
        x.isPoint(4, MINUS_G);
        x.done("join", 2, 0, 10, 11);
        x.isPoint(0, null);
        x.done("join", 3, 1, 10, 11);
        x.isPoint(1, null);
        x.done("join", 0, 2, 3, 4);
        x.isPoint(2, null);
        x.isPoint(11, null);
    }

    /** Terms: "of x, y and x, Q - y: nothing"; promise 12: "minus x, y is x, Q - y". */
    private static void joinWithTheOpposite() {
        Pair x = new Pair("promise 12, sums with the opposite");
        x.call("join", 1, 0, 0, 0);
        x.call("join", 3, 1, 11, 0);
        x.done("join", 2, 2, 0, 1);
        x.isPoint(2, null);
        x.done("join", 2, 3, 1, 0);
        x.isPoint(3, null);
        x.done("join", 3, 4, 0, 0);
        x.isPoint(4, null);
        x.done("join", 3, 5, 0, 1);
        x.isPoint(5, PlainDesk.sum(G, G));
        x.done("join", 3, 6, 1, 0);
        x.isPoint(6, PlainDesk.sum(MINUS_G, MINUS_G));
        x.done("join", 3, 1, 1, 1);
        x.isPoint(1, null);
        x.isPoint(0, G);
    }

    /** Terms: "when both are the same"; promise 12: "p becomes" what q and r were. */
    private static void joinWithItself() {
        BigInteger[] two = PlainDesk.sum(G, G);
        BigInteger[] four = PlainDesk.sum(two, two);
        BigInteger[] three = PlainDesk.sum(two, G);
        Pair x = new Pair("promise 12, sums with itself");
        x.call("join", 1, 0, 0, 0);
        x.call("join", 1, 1, 1, 1);
        x.done("join", 2, 2, 0, 1);
        x.isPoint(2, two);
        x.done("join", 2, 1, 1, 1);
        x.isPoint(1, two);
        x.done("join", 2, 2, 2, 1);
        x.isPoint(2, four);
        x.done("join", 3, 2, 2, 0);
        x.isPoint(2, three);
        x.done("join", 3, 0, 2, 0);
        x.isPoint(0, two);
        x.done("join", 2, 11, 11, 11);
        x.isPoint(11, null);
    }

    /** Promise 12: "Throws IllegalArgumentException also for another what." */
    private static void joinRefusesOtherKinds() {
        Pair x = Pair.furnished("promise 12, another what");
        for (int what : Pair.outside(0, 3)) {
            x.illegal("join", what, 1, 2, 3);
            x.illegal("join", what, 1, 1, 1);
        }
        x.seeWhole();
    }

    /** Terms: "s TIMES a point: the sum of s of it (nothing for 0)"; "R times G is nothing". */
    private static void timesBothEnds() {
        Pair x = new Pair("promise 13, both ends");
        x.call("join", 1, 0, 0, 0);
        x.call("join", 1, 3, 0, 0);
        x.done("times", 3, 1, 0);
        x.isPoint(3, null);
        x.call("set", 1, 1);
        x.done("times", 3, 1, 0);
        x.isPoint(3, G);
        x.call("set", 1, 2);
        x.done("times", 3, 1, 0);
        x.isPoint(3, PlainDesk.sum(G, G));
        x.number(1, R.subtract(ONE));
        x.done("times", 3, 1, 0);
        x.isPoint(3, MINUS_G);
        x.done("times", 4, 1, 3);
        x.isPoint(4, G);
        x.call("join", 2, 4, 3, 0);
        x.isPoint(4, null);
        x.done("times", 5, 1, 11);
        x.isPoint(5, null);
        x.done("times", 0, 1, 0);
        x.isPoint(0, MINUS_G);
        x.done("times", 0, 2, 0);
        x.isPoint(0, null);
    }

    /** Promise 14: "(for n 0 none is asked)": the sum is nothing, whatever a and q are. */
    private static void combineOfNoTerms() {
        int[] any = {-1, 0, 11, 12, 31, 32, Integer.MIN_VALUE, Integer.MAX_VALUE};
        Pair x = Pair.furnished("promise 14, n 0");
        for (int of : any) {
            x.call("join", 1, 3, 0, 0);
            x.done("combine", 3, of, 0, 0);
            x.call(true, "same", 3, Pair.NOTHING);
            x.call("join", 1, 3, 0, 0);
            x.done("combine", 3, 0, of, 0);
            x.call(true, "same", 3, Pair.NOTHING);
            x.done("combine", 11, of, of, 0);
            x.call(true, "same", 11, Pair.NOTHING);
        }
        x.seeWhole();
    }

    private static BigInteger[] sumOf(Pair x, int a, int q, int n) {
        BigInteger[] all = null;
        for (int i = 0; i < n; i++) {
            all = PlainDesk.sum(all, PlainDesk.multiple(x.plain.scalars[a + i], x.plain.points[q + i]));
        }
        return all;
    }

    /** Promise 14: "for i from 0 to n - 1", n up to 12, up to the last scalar and the last point. */
    private static void combineOfTwelveTerms() {
        for (int n = 1; n <= 12; n++) {
            Pair x = Pair.furnished("promise 14, n " + n);
            BigInteger[] first = sumOf(x, 0, 0, n);
            x.done("combine", Pair.NOTHING, 0, 0, n);
            x.isPoint(Pair.NOTHING, first);
            BigInteger[] last = sumOf(x, 32 - n, 12 - n, n);
            x.done("combine", 0, 32 - n, 12 - n, n);
            x.isPoint(0, last);
            x.seeWhole();
        }
    }

    /** Promise 14: "p becomes the sum": of what the points were, p among them. */
    private static void combineReadsBeforeItWrites() {
        for (int p : new int[] {2, 3, 4, 5}) {
            Pair x = Pair.furnished("promise 14, p " + p + " of 2 .. 5");
            BigInteger[] want = sumOf(x, 9, 2, 4);
            x.done("combine", p, 9, 2, 4);
            x.isPoint(p, want);
            x.seeWhole();
        }
    }

    /** Promise 14: "Throws IllegalArgumentException also when n is not 0 .. 12". */
    private static void combineRefusesOtherCounts() {
        Pair x = Pair.furnished("promise 14, n is not 0 .. 12");
        for (int n : Pair.outside(0, 12)) {
            x.illegal("combine", 3, 0, 0, n);
            x.illegal("combine", 3, 31, 11, n);
            x.illegal("combine", 3, -1, -1, n);
        }
        x.seeWhole();
    }

    /** Promise 14: "or one of these is none": the first, the last, or all. */
    private static void combineRefusesWhatIsNotThere() {
        for (int n : new int[] {1, 2, 12}) {
            Pair x = Pair.furnished("promise 14, one of " + n + " is none");
            x.illegal("combine", 3, 33 - n, 0, n);
            x.illegal("combine", 3, 0, 13 - n, n);
            x.illegal("combine", 3, 33 - n, 13 - n, n);
            x.illegal("combine", 3, -1, 0, n);
            x.illegal("combine", 3, 0, -1, n);
            x.illegal("combine", 3, -n, 0, n);
            x.illegal("combine", 3, 0, -n, n);
            x.illegal("combine", 3, 32, 0, n);
            x.illegal("combine", 3, 0, 12, n);
            for (int far : new int[] {Integer.MIN_VALUE, Integer.MAX_VALUE, Integer.MAX_VALUE - n + 1, Integer.MAX_VALUE - n + 2}) {
                x.illegal("combine", 3, far, 0, n);
                x.illegal("combine", 3, 0, far, n);
            }
            x.seeWhole();
        }
    }

    /** Promise 15: "Whether two points are the same": by their value, nothing too; an opposite is another one. */
    private static void sameOfEqualAndOpposite() {
        Pair x = new Pair("promise 15");
        x.call(true, "same", 0, 11);
        x.call(true, "same", 0, 0);
        x.call("join", 1, 0, 0, 0);
        x.call(true, "same", 0, 0);
        x.call(false, "same", 0, 11);
        x.call(false, "same", 11, 0);
        x.call("join", 3, 1, 11, 0);
        x.call(false, "same", 0, 1);
        x.call(false, "same", 1, 0);
        x.call("join", 2, 2, 0, 0);
        x.call("join", 2, 3, 2, 1);
        x.call(true, "same", 3, 0);
        x.call(false, "same", 2, 0);
        x.call("join", 2, 4, 3, 1);
        x.call(true, "same", 4, 11);
        x.call(true, "same", 11, 4);
        x.call(false, "same", 4, 3);
        x.feedBytes(G_SHORT);
        x.call(0, "point", 5);
        x.call(true, "same", 5, 3);
        x.seeWhole();
    }
}
