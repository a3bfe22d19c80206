import java.math.BigInteger;
import java.util.ArrayList;
import java.util.Arrays;
import java.util.HashMap;
import java.util.List;
import java.util.Map;
import java.util.NoSuchElementException;

/** The document once more, in the plainest words that the Java library has: what the tests compare with. */
final class PlainDesk {
    static final BigInteger R = hex("73eda753299d7d483339d80809a1d80553bda402fffe5bfeffffffff00000001");
    static final BigInteger Q = hex("1a0111ea397fe69a4b1ba7b6434bacd764774b84f38512bf6730d2a0f6b0f6241eabfffeb153ffffb9feffffffffaaab");
    static final BigInteger[] G = {
        hex("17f1d3a73197d7942695638c4fa9ac0fc3688c4f9774b905a14e3a3f171bac586c55e83ff97a1aeffb3af00adb22c6bb"),
        hex("08b3f481e3aaa0f1a09e30ed741d8ae4fcf5e095d5d00af600db18cb2c04b3edd03cc744a2888ae40caa232946c5e7e1")};
    static final BigInteger FOUR = BigInteger.valueOf(4);
    private static final Map<List<BigInteger>, BigInteger[]> MULTIPLES = new HashMap<>();

    final BigInteger[] scalars = new BigInteger[32];
    final BigInteger[][] points = new BigInteger[12][];
    final List<BigInteger[]> powers = new ArrayList<>();
    byte[] tape = new byte[0];
    byte[] out = new byte[0];

    PlainDesk() {
        Arrays.fill(scalars, BigInteger.ZERO);
    }

    static BigInteger hex(String digits) {
        return new BigInteger(digits, 16);
    }

    static BigInteger[] sum(BigInteger[] a, BigInteger[] b) {
        if (a == null || b == null) {
            return a == null ? b : a;
        }
        boolean sameX = a[0].equals(b[0]);
        if (sameX && a[1].add(b[1]).mod(Q).signum() == 0) {
            return null;
        }
        BigInteger above = sameX ? a[0].pow(2).multiply(BigInteger.valueOf(3)) : b[1].subtract(a[1]);
        BigInteger below = sameX ? a[1].shiftLeft(1) : b[0].subtract(a[0]);
        BigInteger m = above.multiply(below.modInverse(Q)).mod(Q);
        BigInteger x = m.multiply(m).subtract(a[0]).subtract(b[0]).mod(Q);
        return new BigInteger[] {x, m.multiply(a[0].subtract(x)).subtract(a[1]).mod(Q)};
    }

    static BigInteger[] minus(BigInteger[] a) {
        return a == null ? null : new BigInteger[] {a[0], Q.subtract(a[1]).mod(Q)};
    }

    /** Tests begin with the same points again and again, so a multiple is kept once it has been found. */
    static BigInteger[] multiple(BigInteger s, BigInteger[] a) {
        List<BigInteger> key = a == null ? List.of(s) : List.of(s, a[0], a[1]);
        if (!MULTIPLES.containsKey(key)) {
            MULTIPLES.put(key, doubledAndAdded(s, a));
        }
        return MULTIPLES.get(key);
    }

    private static BigInteger[] doubledAndAdded(BigInteger s, BigInteger[] a) {
        BigInteger[] all = null;
        for (int i = s.bitLength() - 1; i >= 0; i--) {
            all = sum(all, all);
            if (s.testBit(i)) {
                all = sum(all, a);
            }
        }
        return all;
    }

    static boolean onCurve(BigInteger x, BigInteger y) {
        return y.multiply(y).subtract(x.pow(3)).subtract(FOUR).mod(Q).signum() == 0;
    }

    static BigInteger rootFor(BigInteger x) {
        return x.pow(3).add(FOUR).modPow(Q.add(BigInteger.ONE).shiftRight(2), Q);
    }

    static byte[] form(BigInteger[] p, boolean shorter) {
        byte[] made = new byte[shorter ? 48 : 96];
        if (p == null) {
            made[0] = (byte) (shorter ? 0xc0 : 0x40);
            return made;
        }
        putNumber(made, 0, p[0]);
        if (shorter) {
            made[0] |= (byte) (p[1].compareTo(Q.subtract(p[1])) > 0 ? 0xa0 : 0x80);
        } else {
            putNumber(made, 48, p[1]);
        }
        return made;
    }

    static void putNumber(byte[] to, int from, BigInteger n) {
        for (int i = 0; i < 48; i++) {
            to[from + 47 - i] = n.shiftRight(8 * i).byteValue();
        }
    }

    static BigInteger unityOf(int k) {
        return BigInteger.valueOf(7).modPow(R.subtract(BigInteger.ONE).shiftRight(k), R);
    }

    private static void need(boolean holds) {
        if (!holds) {
            throw new IllegalArgumentException();
        }
    }

    private static boolean isScalar(long a) {
        return a >= 0 && a < 32;
    }

    private static boolean isPoint(long p) {
        return p >= 0 && p < 12;
    }

    int feed(int n, long v) {
        need(n >= 1 && n <= 8);
        if (tape.length + n > 96) {
            throw new IllegalStateException();
        }
        int size = tape.length;
        tape = Arrays.copyOf(tape, size + n);
        for (int i = 0; i < n; i++) {
            tape[size + i] = (byte) (v >>> 8 * i);
        }
        return tape.length;
    }

    boolean number(int a) {
        need(isScalar(a));
        byte[] had = tape;
        tape = new byte[0];
        BigInteger n = BigInteger.ZERO;
        for (int i = had.length - 1; i >= 0; i--) {
            n = n.shiftLeft(8).add(BigInteger.valueOf(had[i] & 255));
        }
        if (had.length > 32 || n.compareTo(R) >= 0) {
            return false;
        }
        scalars[a] = n;
        return true;
    }

    void set(int a, long v) {
        need(isScalar(a) && v >= 0);
        scalars[a] = BigInteger.valueOf(v);
    }

    long word(int a, int k) {
        need(isScalar(a) && k >= 0 && k <= 7);
        return scalars[a].shiftRight(32 * k).longValue() & 0xffffffffL;
    }

    void reckon(int what, int a, int b, int c) {
        need(what >= 0 && what <= 3 && isScalar(a) && isScalar(b) && isScalar(c));
        BigInteger x = scalars[b];
        BigInteger y = scalars[c];
        if (what == 3 && y.signum() == 0) {
            throw new ArithmeticException();
        }
        BigInteger all = what == 0 ? x.add(y) : what == 1 ? x.subtract(y) : x.multiply(what == 2 ? y : y.modInverse(R));
        scalars[a] = all.mod(R);
    }

    void power(int a, int b, long n) {
        need(isScalar(a) && isScalar(b) && n >= 0);
        scalars[a] = scalars[b].modPow(BigInteger.valueOf(n), R);
    }

    void unity(int a, int k) {
        need(isScalar(a) && k >= 0 && k <= 32);
        scalars[a] = unityOf(k);
    }

    int point(int p) {
        need(isPoint(p));
        byte[] had = tape;
        tape = new byte[0];
        if (had.length != 48 && had.length != 96) {
            return 1;
        }
        boolean shorter = had.length == 48;
        boolean first = (had[0] & 128) != 0;
        boolean nothing = (had[0] & 64) != 0;
        boolean greater = (had[0] & 32) != 0;
        if (first != shorter || greater && (nothing || !shorter)) {
            return 2;
        }
        had[0] &= 31;
        BigInteger x = new BigInteger(1, Arrays.copyOf(had, 48));
        BigInteger y = new BigInteger(1, Arrays.copyOfRange(had, 48, had.length));
        if (nothing) {
            if (x.signum() != 0 || y.signum() != 0) {
                return 3;
            }
            points[p] = null;
            return 0;
        }
        if (x.compareTo(Q) >= 0 || y.compareTo(Q) >= 0) {
            return 4;
        }
        if (shorter) {
            y = rootFor(x);
            if (y.compareTo(Q.subtract(y)) > 0 != greater) {
                y = Q.subtract(y);
            }
        }
        if (!onCurve(x, y)) {
            return 5;
        }
        BigInteger[] read = {x, y};
        if (multiple(R, read) != null) {
            return 6;
        }
        points[p] = read;
        return 0;
    }

    void bytes(int p, boolean shorter) {
        need(isPoint(p));
        out = form(points[p], shorter);
    }

    long out(int k) {
        if (k < 0 || k >= out.length) {
            throw new NoSuchElementException();
        }
        long eight = 0;
        for (int i = 7; i >= 0; i--) {
            eight = eight << 8 | (k + i < out.length ? out[k + i] & 255 : 0);
        }
        return eight;
    }

    void join(int what, int p, int q, int r) {
        need(what >= 0 && what <= 3 && isPoint(p) && isPoint(q) && isPoint(r));
        BigInteger[] second = what == 3 ? minus(points[r]) : points[r];
        points[p] = what == 0 ? null : what == 1 ? G : sum(points[q], second);
    }

    void times(int p, int a, int q) {
        need(isPoint(p) && isScalar(a) && isPoint(q));
        points[p] = multiple(scalars[a], points[q]);
    }

    void combine(int p, int a, int q, int n) {
        need(isPoint(p) && n >= 0 && n <= 12);
        need(n == 0 || isScalar(a) && isScalar((long) a + n - 1) && isPoint(q) && isPoint((long) q + n - 1));
        BigInteger[] all = null;
        for (int i = 0; i < n; i++) {
            all = sum(all, multiple(scalars[a + i], points[q + i]));
        }
        points[p] = all;
    }

    boolean same(int p, int q) {
        need(isPoint(p) && isPoint(q));
        return Arrays.equals(points[p], points[q]);
    }

    void setup(int a, int n) {
        need(isScalar(a) && n >= 1 && n <= 16);
        powers.clear();
        for (int i = 0; i < n; i++) {
            powers.add(multiple(scalars[a].modPow(BigInteger.valueOf(i), R), G));
        }
    }

    void commit(int p, int a, int n) {
        need(isPoint(p) && n >= 0 && n <= 16);
        need(n == 0 || isScalar(a) && isScalar((long) a + n - 1));
        if (powers.size() < n) {
            throw new IllegalStateException();
        }
        BigInteger[] all = null;
        for (int i = 0; i < n; i++) {
            all = sum(all, multiple(scalars[a + i], powers.get(i)));
        }
        points[p] = all;
    }

    static BigInteger valueAt(BigInteger[] coefficients, BigInteger x) {
        BigInteger all = BigInteger.ZERO;
        for (int i = 0; i < coefficients.length; i++) {
            all = all.add(coefficients[i].multiply(x.modPow(BigInteger.valueOf(i), R)));
        }
        return all.mod(R);
    }

    void open(int a, int n, int z, int y) {
        need(n >= 1 && n <= 16 && isScalar(a) && isScalar((long) a + n - 1) && isScalar(z) && isScalar(y));
        BigInteger[] rest = Arrays.copyOfRange(scalars, a, a + n);
        BigInteger at = scalars[z];
        BigInteger value = valueAt(rest, at);
        // Long division: the highest coefficient left goes into the quotient, times x - z goes off the rest.
        for (int i = n - 1; i >= 1; i--) {
            scalars[a + i - 1] = rest[i];
            rest[i - 1] = rest[i - 1].add(rest[i].multiply(at)).mod(R);
        }
        scalars[a + n - 1] = BigInteger.ZERO;
        scalars[y] = value;
    }

    boolean checks(int p, int q, int z, int y, int t) {
        need(isPoint(p) && isPoint(q) && isScalar(z) && isScalar(y) && isScalar(t));
        BigInteger[] left = sum(points[p], minus(multiple(scalars[y], G)));
        return Arrays.equals(left, multiple(scalars[t].subtract(scalars[z]).mod(R), points[q]));
    }

    void transform(int a, int k, boolean back) {
        need(k >= 0 && k <= 4 && isScalar(a) && isScalar((long) a + (1 << k) - 1));
        int n = 1 << k;
        BigInteger root = unityOf(k);
        BigInteger[] had = Arrays.copyOfRange(scalars, a, a + n);
        if (!back) {
            for (int i = 0; i < n; i++) {
                scalars[a + i] = valueAt(had, root.modPow(BigInteger.valueOf(i), R));
            }
            return;
        }
        BigInteger[] all = new BigInteger[n];
        Arrays.fill(all, BigInteger.ZERO);
        for (int i = 0; i < n; i++) {
            BigInteger[] basis = basis(root, n, i);
            for (int j = 0; j < n; j++) {
                all[j] = all[j].add(basis[j].multiply(had[i])).mod(R);
            }
        }
        System.arraycopy(all, 0, scalars, a, n);
    }

    /** The coefficients of the product of (x - w^j) / (w^i - w^j) over all j but i. */
    private static BigInteger[] basis(BigInteger root, int n, int i) {
        BigInteger[] made = new BigInteger[n];
        Arrays.fill(made, BigInteger.ZERO);
        made[0] = BigInteger.ONE;
        BigInteger here = root.modPow(BigInteger.valueOf(i), R);
        for (int j = 0; j < n; j++) {
            if (j != i) {
                BigInteger other = root.modPow(BigInteger.valueOf(j), R);
                BigInteger scale = here.subtract(other).modInverse(R);
                for (int k = n - 1; k >= 0; k--) {
                    BigInteger lower = k > 0 ? made[k - 1] : BigInteger.ZERO;
                    made[k] = lower.subtract(made[k].multiply(other)).multiply(scale).mod(R);
                }
            }
        }
        return made;
    }

    void lagrange(int a, int k, int i, int z) {
        need(isScalar(a) && isScalar(z) && k >= 0 && k <= 4 && i >= 0 && i < 1 << k);
        scalars[a] = valueAt(basis(unityOf(k), 1 << k, i), scalars[z]);
    }

    int look(int what) {
        need(what >= 0 && what <= 2);
        return what == 0 ? powers.size() : what == 1 ? tape.length : out.length;
    }
}
