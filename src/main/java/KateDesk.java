import java.util.Arrays;
import java.util.NoSuchElementException;

/**
 * Commitments to polynomials by points of a curve: numbers modulo one prime, points over another
 * one in their byte forms, sums of multiples, transforms over roots of unity, openings and their
 * check by whom the secret is known to.
 */
public final class KateDesk {
    private static final int SCALARS = 32;
    private static final int POINTS = 12;
    private static final int MOST_POWERS = 16;
    private static final int MOST_COMBINED = 12;
    private static final int MOST_DOUBLINGS = 4;
    private static final int DEEPEST_UNITY = 32;
    private static final int TAPE_BYTES = 96;
    private static final int NUMBER_BYTES = 32;
    private static final int WORDS = 8;
    private static final int PARTS = 4;
    private static final int PART_BITS = 64;
    private static final int NOT_GOOD = 6;

    private static final String R = "73eda753299d7d483339d80809a1d80553bda402fffe5bfeffffffff00000001";
    private static final String Q = "1a0111ea397fe69a4b1ba7b6434bacd764774b84f38512bf6730d2a0f6b0f6241eabfffeb153ffffb9feffffffffaaab";
    private static final String GX = "17f1d3a73197d7942695638c4fa9ac0fc3688c4f9774b905a14e3a3f171bac586c55e83ff97a1aeffb3af00adb22c6bb";
    private static final String GY = "08b3f481e3aaa0f1a09e30ed741d8ae4fcf5e095d5d00af600db18cb2c04b3edd03cc744a2888ae40caa232946c5e7e1";

    private final Field scalarField;
    private final Curve curve;
    private final Sums sums;
    private final Forms forms;
    private final Polynomials polynomials;
    private final long[][] scalars = new long[SCALARS][Limbs.COUNT];
    private final Point[] points = newPoints(POINTS);
    private final Point[] powers = newPoints(MOST_POWERS);
    private int powerCount = 0;
    private final Row tape = new Row();
    private final Row written = new Row();
    private final Point generator;
    private final Point handPoint = new Point();
    private final Point multiple = new Point();
    private final long[] handScalar = new long[Limbs.COUNT];
    private final long[] factor = new long[Limbs.COUNT];

    public KateDesk() {
        Field moduloR = new Field(R);
        Field moduloQ = new Field(Q);
        Curve overQ = new Curve(moduloQ);
        scalarField = moduloR;
        curve = overQ;
        sums = new Sums(overQ);
        forms = new Forms(moduloQ, overQ);
        polynomials = new Polynomials(moduloR);
        generator = newGenerator(moduloQ);
    }

    public int feed(int n, long v) throws IllegalArgumentException, IllegalStateException {
        if (n < 1 || n > 8) {
            throw new IllegalArgumentException("there are 1 to 8 bytes to feed");
        }
        if (tape.size + n > TAPE_BYTES) {
            throw new IllegalStateException("the tape is full");
        }
        for (int i = 0; i < n; i++) {
            tape.append((int) (v >> 8 * i));
        }
        return tape.size;
    }

    public boolean number(int a) throws IllegalArgumentException {
        needScalars(a, 1);
        Limbs.clear(handScalar);
        for (int i = 0; i < tape.size; i++) {
            Limbs.orByte(handScalar, i, tape.at(i));
        }
        boolean fits = tape.size <= NUMBER_BYTES && Limbs.less(handScalar, scalarField.modulus);
        tape.size = 0;
        if (fits) {
            Limbs.copy(scalars[a], handScalar);
        }
        return fits;
    }

    public void set(int a, long v) throws IllegalArgumentException {
        needScalars(a, 1);
        if (v < 0) {
            throw new IllegalArgumentException("the value is below 0");
        }
        Limbs.fromLong(scalars[a], v);
    }

    public long word(int a, int k) throws IllegalArgumentException {
        needScalars(a, 1);
        if (k < 0 || k >= WORDS) {
            throw new IllegalArgumentException("a scalar has words 0 to 7");
        }
        long low = Limbs.bits(scalars[a], 32 * k, 16);
        long high = Limbs.bits(scalars[a], 32 * k + 16, 16);
        return high << 16 | low;
    }

    public void reckon(int what, int a, int b, int c) throws IllegalArgumentException, ArithmeticException {
        needKind(what);
        needScalars(a, 1);
        needScalars(b, 1);
        needScalars(c, 1);
        if (what == 3 && Limbs.isZero(scalars[c])) {
            throw new ArithmeticException("a division by 0");
        }
        if (what == 0) {
            scalarField.add(scalars[a], scalars[b], scalars[c]);
        } else if (what == 1) {
            scalarField.subtract(scalars[a], scalars[b], scalars[c]);
        } else {
            scalarField.lift(factor, scalars[c]);
            if (what == 3) {
                scalarField.invert(factor, factor);
            }
            scalarField.multiply(scalars[a], scalars[b], factor);
        }
    }

    public void power(int a, int b, long n) throws IllegalArgumentException {
        needScalars(a, 1);
        needScalars(b, 1);
        if (n < 0) {
            throw new IllegalArgumentException("the exponent is below 0");
        }
        Limbs.fromLong(handScalar, n);
        scalarField.lift(factor, scalars[b]);
        scalarField.raise(factor, factor, handScalar);
        scalarField.lower(scalars[a], factor);
    }

    public void unity(int a, int k) throws IllegalArgumentException {
        needScalars(a, 1);
        if (k < 0 || k > DEEPEST_UNITY) {
            throw new IllegalArgumentException("there are unities 0 to 32");
        }
        polynomials.liftedRoot(factor, k);
        scalarField.lower(scalars[a], factor);
    }

    public int point(int p) throws IllegalArgumentException {
        needPoints(p, 1);
        int fault = forms.read(handPoint, tape);
        tape.size = 0;
        if (fault != 0) {
            return fault;
        }
        if (!isGood(handPoint)) {
            return NOT_GOOD;
        }
        points[p].copy(handPoint);
        return 0;
    }

    public void bytes(int p, boolean shorter) throws IllegalArgumentException {
        needPoints(p, 1);
        forms.write(written, points[p], shorter);
    }

    public long out(int k) throws NoSuchElementException {
        if (k < 0 || k >= written.size) {
            throw new NoSuchElementException("there is no such byte");
        }
        long eight = 0;
        for (int i = 0; i < 8 && k + i < written.size; i++) {
            eight |= (long) written.at(k + i) << 8 * i;
        }
        return eight;
    }

    public void join(int what, int p, int q, int r) throws IllegalArgumentException {
        needKind(what);
        needPoints(p, 1);
        needPoints(q, 1);
        needPoints(r, 1);
        if (what == 0) {
            points[p].becomeNothing();
        } else if (what == 1) {
            points[p].copy(generator);
        } else {
            curve.add(points[p], points[q], points[r], what == 3);
        }
    }

    public void times(int p, int a, int q) throws IllegalArgumentException {
        needPoints(p, 1);
        needScalars(a, 1);
        needPoints(q, 1);
        sums.place(0, scalars[a], points[q]);
        sums.total(points[p], 1);
    }

    public void combine(int p, int a, int q, int n) throws IllegalArgumentException {
        needPoints(p, 1);
        needCount(n, 0, MOST_COMBINED);
        needScalars(a, n);
        needPoints(q, n);
        for (int i = 0; i < n; i++) {
            sums.place(i, scalars[a + i], points[q + i]);
        }
        sums.total(points[p], n);
    }

    public boolean same(int p, int q) throws IllegalArgumentException {
        needPoints(p, 1);
        needPoints(q, 1);
        return curve.equal(points[p], points[q]);
    }

    public void setup(int a, int n) throws IllegalArgumentException {
        needScalars(a, 1);
        needCount(n, 1, MOST_POWERS);
        powers[0].copy(generator);
        if (n > 1) {
            spreadGenerator();
        }
        scalarField.lift(factor, scalars[a]);
        Limbs.copy(handScalar, scalars[a]);
        for (int i = 1; i < n; i++) {
            timesGenerator(powers[i], handScalar);
            scalarField.multiply(handScalar, handScalar, factor);
        }
        powerCount = n;
    }

    public void commit(int p, int a, int n) throws IllegalArgumentException, IllegalStateException {
        needPoints(p, 1);
        needCount(n, 0, MOST_POWERS);
        needScalars(a, n);
        if (powerCount < n) {
            throw new IllegalStateException("there are fewer powers");
        }
        for (int i = 0; i < n; i++) {
            sums.place(i, scalars[a + i], powers[i]);
        }
        sums.total(points[p], n);
    }

    public void open(int a, int n, int z, int y) throws IllegalArgumentException {
        needCount(n, 1, MOST_POWERS);
        needScalars(a, n);
        needScalars(z, 1);
        needScalars(y, 1);
        scalarField.lift(factor, scalars[z]);
        polynomials.divide(handScalar, scalars, a, n, factor);
        Limbs.copy(scalars[y], handScalar);
    }

    public boolean checks(int p, int q, int z, int y, int t) throws IllegalArgumentException {
        needPoints(p, 1);
        needPoints(q, 1);
        needScalars(z, 1);
        needScalars(y, 1);
        needScalars(t, 1);
        scalarField.subtract(handScalar, scalars[t], scalars[z]);
        sums.place(0, scalars[y], generator);
        sums.place(1, handScalar, points[q]);
        sums.total(multiple, 2);
        return curve.equal(points[p], multiple);
    }

    public void transform(int a, int k, boolean back) throws IllegalArgumentException {
        needCount(k, 0, MOST_DOUBLINGS);
        needScalars(a, 1 << k);
        if (back) {
            polynomials.interpolate(scalars, a, k);
        } else {
            polynomials.evaluate(scalars, a, k);
        }
    }

    public void lagrange(int a, int k, int i, int z) throws IllegalArgumentException {
        needCount(k, 0, MOST_DOUBLINGS);
        needCount(i, 0, (1 << k) - 1);
        needScalars(a, 1);
        needScalars(z, 1);
        scalarField.lift(factor, scalars[z]);
        polynomials.basis(scalars[a], k, i, factor);
    }

    public int look(int what) throws IllegalArgumentException {
        if (what == 0) {
            return powerCount;
        }
        if (what == 1) {
            return tape.size;
        }
        if (what == 2) {
            return written.size;
        }
        throw new IllegalArgumentException("there is nothing such to look at");
    }

    private static void needKind(int what) {
        if (what < 0 || what > 3) {
            throw new IllegalArgumentException("there are kinds 0 to 3");
        }
    }

    private static void needCount(int n, int least, int most) {
        if (n < least || n > most) {
            throw new IllegalArgumentException("the number is out of its range");
        }
    }

    private static void needScalars(int a, int n) {
        if (n > 0 && (a < 0 || a > SCALARS - n)) {
            throw new IllegalArgumentException("there is no such scalar");
        }
    }

    private static void needPoints(int p, int n) {
        if (n > 0 && (p < 0 || p > POINTS - n)) {
            throw new IllegalArgumentException("there is no such point");
        }
    }

    private static Point[] newPoints(int n) {
        Point[] made = new Point[n];
        for (int i = 0; i < n; i++) {
            made[i] = new Point();
        }
        return made;
    }

    private static Point newGenerator(Field moduloQ) {
        Point made = new Point();
        moduloQ.lift(made.x, Limbs.fromHex(GX));
        moduloQ.lift(made.y, Limbs.fromHex(GY));
        Limbs.copy(made.z, moduloQ.one);
        return made;
    }

    private boolean isGood(Point p) {
        sums.place(0, scalarField.modulus, p);
        sums.total(multiple, 1);
        return multiple.isNothing();
    }

    /** Many multiples of G follow: four starting points cut the doublings of each to a quarter. */
    private void spreadGenerator() {
        handPoint.copy(generator);
        for (int part = 0; part < PARTS; part++) {
            sums.tabulate(part, handPoint);
            for (int i = 0; i < PART_BITS && part < PARTS - 1; i++) {
                curve.twice(handPoint, handPoint);
            }
        }
    }

    private void timesGenerator(Point to, long[] scalar) {
        for (int part = 0; part < PARTS; part++) {
            sums.recode(part, scalar, PART_BITS * part, PART_BITS);
        }
        sums.total(to, PARTS);
    }

    /** Whole numbers as rows of 28 bits each, lowest first: room for sums of many products in a long. */
    private static final class Limbs {
        static final int COUNT = 14;
        static final int BITS = 28;
        static final long MASK = (1L << BITS) - 1;

        private Limbs() {
        }

        static long[] fromHex(String hex) {
            long[] made = new long[COUNT];
            int length = hex.length();
            for (int i = 0; i < length && 4 * i < COUNT * BITS; i++) {
                char c = hex.charAt(length - 1 - i);
                long digit = c <= '9' ? c - '0' : c - 'a' + 10;
                made[4 * i / BITS] |= digit << 4 * i % BITS;
            }
            return made;
        }

        static void fromLong(long[] to, long v) {
            clear(to);
            to[0] = v & MASK;
            to[1] = v >> BITS & MASK;
            to[2] = v >> 2 * BITS;
        }

        static void clear(long[] n) {
            Arrays.fill(n, 0);
        }

        static void copy(long[] to, long[] from) {
            System.arraycopy(from, 0, to, 0, COUNT);
        }

        static boolean isZero(long[] n) {
            for (int i = 0; i < COUNT; i++) {
                if (n[i] != 0) {
                    return false;
                }
            }
            return true;
        }

        static boolean equal(long[] a, long[] b) {
            for (int i = 0; i < COUNT; i++) {
                if (a[i] != b[i]) {
                    return false;
                }
            }
            return true;
        }

        static boolean less(long[] a, long[] b) {
            for (int i = COUNT - 1; i >= 0; i--) {
                if (a[i] != b[i]) {
                    return a[i] < b[i];
                }
            }
            return false;
        }

        /** At most 28 bits, from the bit named on; 0 behind the end. */
        static long bits(long[] n, int at, int count) {
            int limb = at / BITS;
            int offset = at % BITS;
            if (at < 0 || limb >= COUNT) {
                return 0;
            }
            long found = n[limb] >> offset;
            if (limb + 1 < COUNT) {
                found |= n[limb + 1] << BITS - offset;
            }
            return found & (1L << count) - 1;
        }

        /** Puts a byte where the row has none yet; its place counts from the lowest one. */
        static void orByte(long[] n, int place, int value) {
            int limb = 8 * place / BITS;
            if (place < 0 || limb >= COUNT) {
                return;
            }
            long shifted = (long) value << 8 * place % BITS;
            n[limb] |= shifted & MASK;
            if (limb + 1 < COUNT) {
                n[limb + 1] |= shifted >> BITS;
            }
        }

        static void shiftRight(long[] to, long[] n, int by) {
            for (int i = 0; i < COUNT; i++) {
                to[i] = bits(n, BITS * i + by, BITS);
            }
        }
    }

    /**
     * Numbers below one prime. A number times 2^392 is called lifted (Montgomery's form): a product
     * with one lifted factor is plain, one with both factors lifted is lifted.
     */
    private static final class Field {
        final long[] modulus;
        final long[] one = new long[Limbs.COUNT];
        private final long[] plainOne = new long[Limbs.COUNT];
        private final long[] liftedLift = new long[Limbs.COUNT];
        private final long[] inverseExponent = new long[Limbs.COUNT];
        private final long[] base = new long[Limbs.COUNT];
        private final long minusInverse;

        Field(String hex) {
            modulus = Limbs.fromHex(hex);
            minusInverse = minusInverseOf(modulus[0]);
            plainOne[0] = 1;
            Limbs.copy(one, plainOne);
            doubled(one, Limbs.COUNT * Limbs.BITS);
            Limbs.copy(liftedLift, one);
            doubled(liftedLift, Limbs.COUNT * Limbs.BITS / 8);
            for (int i = 0; i < 3; i++) {
                multiply(liftedLift, liftedLift, liftedLift);
            }
            // Minus 2 is the modulus less 2: by Fermat the exponent of an inverse.
            subtract(inverseExponent, inverseExponent, plainOne);
            subtract(inverseExponent, inverseExponent, plainOne);
        }

        /** Each round doubles the number of low bits that are right. */
        private static long minusInverseOf(long odd) {
            long inverse = 1;
            for (int i = 0; i < 5; i++) {
                inverse *= 2 - odd * inverse;
            }
            return -inverse & Limbs.MASK;
        }

        private void doubled(long[] n, int rounds) {
            for (int i = 0; i < rounds; i++) {
                add(n, n, n);
            }
        }

        void add(long[] to, long[] a, long[] b) {
            long carry = 0;
            for (int i = 0; i < Limbs.COUNT; i++) {
                carry += a[i] + b[i];
                to[i] = carry & Limbs.MASK;
                carry >>= Limbs.BITS;
            }
            reduce(to);
        }

        void subtract(long[] to, long[] a, long[] b) {
            long carry = 0;
            for (int i = 0; i < Limbs.COUNT; i++) {
                carry += a[i] - b[i];
                to[i] = carry & Limbs.MASK;
                carry >>= Limbs.BITS;
            }
            if (carry == 0) {
                return;
            }
            carry = 0;
            for (int i = 0; i < Limbs.COUNT; i++) {
                carry += to[i] + modulus[i];
                to[i] = carry & Limbs.MASK;
                carry >>= Limbs.BITS;
            }
        }

        void negate(long[] to, long[] a) {
            Limbs.clear(base);
            subtract(to, base, a);
        }

        /** Brings a number below twice the modulus below it. */
        private void reduce(long[] n) {
            for (int i = Limbs.COUNT - 1; i >= 0; i--) {
                if (n[i] < modulus[i]) {
                    return;
                }
                if (n[i] > modulus[i]) {
                    break;
                }
            }
            long carry = 0;
            for (int i = 0; i < Limbs.COUNT; i++) {
                carry += n[i] - modulus[i];
                n[i] = carry & Limbs.MASK;
                carry >>= Limbs.BITS;
            }
        }

        /**
         * The product divided by 2^392. Written out, as nearly all the time of the class goes here:
         * a column takes at most 28 products of 56 bits, so that no carry is due before the end.
         */
        void multiply(long[] to, long[] a, long[] b) {
            long a0 = a[0], a1 = a[1], a2 = a[2], a3 = a[3], a4 = a[4], a5 = a[5], a6 = a[6];
            long a7 = a[7], a8 = a[8], a9 = a[9], a10 = a[10], a11 = a[11], a12 = a[12], a13 = a[13];
            long[] q = modulus;
            long q0 = q[0], q1 = q[1], q2 = q[2], q3 = q[3], q4 = q[4], q5 = q[5], q6 = q[6];
            long q7 = q[7], q8 = q[8], q9 = q[9], q10 = q[10], q11 = q[11], q12 = q[12], q13 = q[13];
            long t0 = 0, t1 = 0, t2 = 0, t3 = 0, t4 = 0, t5 = 0, t6 = 0;
            long t7 = 0, t8 = 0, t9 = 0, t10 = 0, t11 = 0, t12 = 0;
            for (int i = 0; i < Limbs.COUNT; i++) {
                long x = b[i];
                t0 += x * a0;
                long m = t0 * minusInverse & Limbs.MASK;
                t0 = (t0 + m * q0 >> Limbs.BITS) + t1 + x * a1 + m * q1;
                t1 = t2 + x * a2 + m * q2;
                t2 = t3 + x * a3 + m * q3;
                t3 = t4 + x * a4 + m * q4;
                t4 = t5 + x * a5 + m * q5;
                t5 = t6 + x * a6 + m * q6;
                t6 = t7 + x * a7 + m * q7;
                t7 = t8 + x * a8 + m * q8;
                t8 = t9 + x * a9 + m * q9;
                t9 = t10 + x * a10 + m * q10;
                t10 = t11 + x * a11 + m * q11;
                t11 = t12 + x * a12 + m * q12;
                t12 = x * a13 + m * q13;
            }
            to[0] = t0 & Limbs.MASK;
            to[1] = (t1 += t0 >> Limbs.BITS) & Limbs.MASK;
            to[2] = (t2 += t1 >> Limbs.BITS) & Limbs.MASK;
            to[3] = (t3 += t2 >> Limbs.BITS) & Limbs.MASK;
            to[4] = (t4 += t3 >> Limbs.BITS) & Limbs.MASK;
            to[5] = (t5 += t4 >> Limbs.BITS) & Limbs.MASK;
            to[6] = (t6 += t5 >> Limbs.BITS) & Limbs.MASK;
            to[7] = (t7 += t6 >> Limbs.BITS) & Limbs.MASK;
            to[8] = (t8 += t7 >> Limbs.BITS) & Limbs.MASK;
            to[9] = (t9 += t8 >> Limbs.BITS) & Limbs.MASK;
            to[10] = (t10 += t9 >> Limbs.BITS) & Limbs.MASK;
            to[11] = (t11 += t10 >> Limbs.BITS) & Limbs.MASK;
            to[12] = (t12 += t11 >> Limbs.BITS) & Limbs.MASK;
            to[13] = t12 >> Limbs.BITS;
            reduce(to);
        }

        void lift(long[] to, long[] plain) {
            multiply(to, plain, liftedLift);
        }

        void lower(long[] to, long[] lifted) {
            multiply(to, lifted, plainOne);
        }

        /** Lifted base, lifted result; the exponent is a plain number of any size. */
        void raise(long[] to, long[] lifted, long[] exponent) {
            Limbs.copy(base, lifted);
            Limbs.copy(to, one);
            boolean begun = false;
            for (int i = Limbs.COUNT * Limbs.BITS - 1; i >= 0; i--) {
                if (begun) {
                    multiply(to, to, to);
                }
                if (Limbs.bits(exponent, i, 1) == 1) {
                    multiply(to, to, base);
                    begun = true;
                }
            }
        }

        void invert(long[] to, long[] lifted) {
            raise(to, lifted, inverseExponent);
        }
    }

    /** A point x / z, y / z in lifted numbers; nothing has z 0 (then x is 0 and y is not). */
    private static final class Point {
        final long[] x = new long[Limbs.COUNT];
        final long[] y = new long[Limbs.COUNT];
        final long[] z = new long[Limbs.COUNT];

        Point() {
            y[0] = 1;
        }

        void becomeNothing() {
            Limbs.clear(x);
            Limbs.clear(y);
            Limbs.clear(z);
            y[0] = 1;
        }

        void copy(Point p) {
            Limbs.copy(x, p.x);
            Limbs.copy(y, p.y);
            Limbs.copy(z, p.z);
        }

        boolean isNothing() {
            return Limbs.isZero(z);
        }
    }

    /**
     * The sum of points by the complete formulas of Renes, Costello and Batina: no point of this
     * curve is its own opposite, so they hold for all pairs, equal ones and nothing too.
     */
    private static final class Curve {
        private final Field field;
        private final long[] xx = new long[Limbs.COUNT];
        private final long[] yy = new long[Limbs.COUNT];
        private final long[] zz = new long[Limbs.COUNT];
        private final long[] xy = new long[Limbs.COUNT];
        private final long[] yz = new long[Limbs.COUNT];
        private final long[] xz = new long[Limbs.COUNT];
        private final long[] left = new long[Limbs.COUNT];
        private final long[] right = new long[Limbs.COUNT];
        private final long[] opposite = new long[Limbs.COUNT];

        Curve(Field field) {
            this.field = field;
        }

        /** a and b, or a and minus b. */
        void add(Point to, Point a, Point b, boolean minus) {
            long[] by = b.y;
            if (minus) {
                field.negate(opposite, b.y);
                by = opposite;
            }
            field.multiply(xx, a.x, b.x);
            field.multiply(yy, a.y, by);
            field.multiply(zz, a.z, b.z);
            mixed(xy, a.x, a.y, b.x, by, xx, yy);
            mixed(yz, a.y, a.z, by, b.z, yy, zz);
            mixed(xz, a.x, a.z, b.x, b.z, xx, zz);
            field.add(left, xx, xx);
            field.add(xx, left, xx);
            twelvefold(zz, zz);
            twelvefold(xz, xz);
            field.subtract(left, yy, zz);
            field.add(right, yy, zz);
            field.multiply(yy, yz, xz);
            field.multiply(zz, xy, left);
            field.subtract(to.x, zz, yy);
            field.multiply(yy, left, right);
            field.multiply(zz, xx, xz);
            field.add(to.y, yy, zz);
            field.multiply(yy, right, yz);
            field.multiply(zz, xx, xy);
            field.add(to.z, yy, zz);
        }

        /** a d + b c out of (a + b) (c + d): one product in place of two, a c and b d being known. */
        private void mixed(long[] to, long[] a, long[] b, long[] c, long[] d, long[] ac, long[] bd) {
            field.add(left, a, b);
            field.add(right, c, d);
            field.multiply(to, left, right);
            field.subtract(to, to, ac);
            field.subtract(to, to, bd);
        }

        /** The formulas ask for three times the curve's 4. */
        private void twelvefold(long[] to, long[] a) {
            field.add(left, a, a);
            field.add(left, left, a);
            field.add(left, left, left);
            field.add(to, left, left);
        }

        void twice(Point to, Point a) {
            field.multiply(yy, a.y, a.y);
            field.multiply(zz, a.z, a.z);
            field.multiply(xy, a.x, a.y);
            field.multiply(yz, a.y, a.z);
            twelvefold(zz, zz);
            field.add(right, yy, zz);
            field.add(left, zz, zz);
            field.add(left, left, zz);
            field.subtract(left, yy, left);
            field.add(yy, yy, yy);
            field.add(yy, yy, yy);
            field.add(yy, yy, yy);
            field.multiply(to.z, yy, yz);
            field.multiply(yy, yy, zz);
            field.multiply(right, left, right);
            field.add(to.y, yy, right);
            field.multiply(left, left, xy);
            field.add(to.x, left, left);
        }

        boolean equal(Point a, Point b) {
            return equalRatios(a.x, a.z, b.x, b.z) && equalRatios(a.y, a.z, b.y, b.z);
        }

        private boolean equalRatios(long[] a, long[] az, long[] b, long[] bz) {
            field.multiply(left, a, bz);
            field.multiply(right, b, az);
            return Limbs.equal(left, right);
        }

        /** x * x * x + 4, which is the square of y. */
        void squareOfY(long[] to, long[] x) {
            field.multiply(left, x, x);
            field.multiply(left, left, x);
            field.add(right, field.one, field.one);
            field.add(right, right, right);
            field.add(to, left, right);
        }
    }

    /**
     * Sums of multiples of several points that share their doublings. A scalar is written in digits
     * that are 0 or odd, -7 to 7, at most one of four neighbours not 0; a table has a point's 1, 3,
     * 5 and 7 times.
     */
    private static final class Sums {
        private static final int TERMS = 16;
        private static final int WIDTH = 4;
        private static final int ODDS = 4;
        private static final int SCALAR_BITS = 256;

        private final Curve curve;
        private final Point[] odds = newPoints(TERMS * ODDS);
        private final byte[][] digits = new byte[TERMS][SCALAR_BITS + 1];
        private final Point sum = new Point();

        Sums(Curve curve) {
            this.curve = curve;
        }

        void place(int term, long[] scalar, Point p) {
            recode(term, scalar, 0, SCALAR_BITS);
            if (!Limbs.isZero(scalar)) {
                tabulate(term, p);
            }
        }

        void tabulate(int term, Point p) {
            int first = term * ODDS;
            odds[first].copy(p);
            curve.twice(sum, p);
            for (int i = first + 1; i < first + ODDS; i++) {
                curve.add(odds[i], odds[i - 1], sum, false);
            }
        }

        /** Takes the bits from one on, count of them, as the multiplier of a term. */
        void recode(int term, long[] scalar, int from, int count) {
            byte[] row = digits[term];
            Arrays.fill(row, (byte) 0);
            int carry = 0;
            int free = 0;
            for (int i = 0; i <= count; i++) {
                int digit = carry + (int) Limbs.bits(scalar, from + i, Math.min(WIDTH, count - i));
                if (i >= free && (digit & 1) == 1) {
                    carry = digit >> WIDTH - 1;
                    row[i] = (byte) (digit - (carry << WIDTH));
                    free = i + WIDTH;
                }
            }
        }

        void total(Point to, int terms) {
            sum.becomeNothing();
            boolean begun = false;
            for (int i = SCALAR_BITS; i >= 0; i--) {
                if (begun) {
                    curve.twice(sum, sum);
                }
                for (int term = 0; term < terms; term++) {
                    int digit = digits[term][i];
                    if (digit != 0) {
                        curve.add(sum, sum, odds[term * ODDS + Math.abs(digit) / 2], digit < 0);
                        begun = true;
                    }
                }
            }
            to.copy(sum);
        }
    }

    /** Bytes, 96 at the most. */
    private static final class Row {
        private final byte[] cells = new byte[TAPE_BYTES];
        int size = 0;

        void append(int value) {
            if (size < TAPE_BYTES) {
                cells[size] = (byte) value;
                size++;
            }
        }

        int at(int k) {
            return k >= 0 && k < size ? cells[k] & 255 : 0;
        }
    }

    /** The byte forms of points. */
    private static final class Forms {
        private static final int COORDINATE = 48;
        private static final int SHORT = 4;
        private static final int NOTHING = 2;
        private static final int GREATER = 1;
        private static final int MARK_SHIFT = 5;
        private static final int UNMARKED = 31;

        private final Field field;
        private final Curve curve;
        private final long[] rootExponent = new long[Limbs.COUNT];
        private final long[] square = new long[Limbs.COUNT];
        private final long[] found = new long[Limbs.COUNT];
        private final long[] plain = new long[Limbs.COUNT];

        Forms(Field field, Curve curve) {
            this.field = field;
            this.curve = curve;
            // Q is 3 modulo 4, so a square to the (Q + 1) / 4 is a root of it.
            Limbs.shiftRight(rootExponent, field.modulus, 2);
            rootExponent[0]++;
        }

        /** 0, or the number of the first fault of the bytes; good points are told by others. */
        int read(Point to, Row from) {
            if (from.size != COORDINATE && from.size != 2 * COORDINATE) {
                return 1;
            }
            boolean shorter = from.size == COORDINATE;
            int marks = from.at(0) >> MARK_SHIFT;
            if (!canBe(marks, shorter)) {
                return 2;
            }
            if ((marks & NOTHING) != 0) {
                to.becomeNothing();
                return isBare(from) ? 0 : 3;
            }
            if (!readCoordinate(to.x, from, 0) || !shorter && !readCoordinate(to.y, from, COORDINATE)) {
                return 4;
            }
            curve.squareOfY(square, to.x);
            if (shorter) {
                findY(to.y, (marks & GREATER) != 0);
            }
            Limbs.copy(to.z, field.one);
            field.multiply(found, to.y, to.y);
            return Limbs.equal(found, square) ? 0 : 5;
        }

        private static boolean canBe(int marks, boolean shorter) {
            if (shorter) {
                return marks == SHORT || marks == SHORT + GREATER || marks == SHORT + NOTHING;
            }
            return marks == 0 || marks == NOTHING;
        }

        private static boolean isBare(Row row) {
            int others = row.at(0) & UNMARKED;
            for (int i = 1; i < row.size; i++) {
                others |= row.at(i);
            }
            return others == 0;
        }

        private boolean readCoordinate(long[] to, Row row, int from) {
            Limbs.clear(plain);
            for (int i = 0; i < COORDINATE; i++) {
                int mask = from + i == 0 ? UNMARKED : 255;
                Limbs.orByte(plain, COORDINATE - 1 - i, row.at(from + i) & mask);
            }
            field.lift(to, plain);
            return Limbs.less(plain, field.modulus);
        }

        private void findY(long[] to, boolean greater) {
            field.raise(to, square, rootExponent);
            field.lower(plain, to);
            if (isGreater(plain) != greater) {
                field.negate(to, to);
            }
        }

        private boolean isGreater(long[] y) {
            field.negate(found, y);
            return Limbs.less(found, y);
        }

        void write(Row to, Point p, boolean shorter) {
            int marks = shorter ? SHORT : 0;
            to.size = 0;
            if (p.isNothing()) {
                to.append(marks + NOTHING << MARK_SHIFT);
                for (int i = 1; i < (shorter ? COORDINATE : 2 * COORDINATE); i++) {
                    to.append(0);
                }
                return;
            }
            field.invert(square, p.z);
            field.multiply(plain, p.y, square);
            field.lower(plain, plain);
            if (shorter && isGreater(plain)) {
                marks += GREATER;
            }
            field.multiply(found, p.x, square);
            field.lower(found, found);
            writeCoordinate(to, found, marks);
            if (!shorter) {
                writeCoordinate(to, plain, 0);
            }
        }

        private static void writeCoordinate(Row to, long[] n, int marks) {
            to.append(marks << MARK_SHIFT | (int) Limbs.bits(n, 8 * COORDINATE - 8, 8));
            for (int i = COORDINATE - 2; i >= 0; i--) {
                to.append((int) Limbs.bits(n, 8 * i, 8));
            }
        }
    }

    /** Polynomials whose coefficients or values are rows of plain scalars. */
    private static final class Polynomials {
        private static final int MOST = 16;

        private final Field field;
        private final long[] seven = new long[Limbs.COUNT];
        private final long[] plainOne = new long[Limbs.COUNT];
        private final long[] exponent = new long[Limbs.COUNT];
        private final long[] root = new long[Limbs.COUNT];
        private final long[] place = new long[Limbs.COUNT];
        private final long[] share = new long[Limbs.COUNT];
        private final long[] next = new long[Limbs.COUNT];
        private final long[][] values = new long[MOST][Limbs.COUNT];

        Polynomials(Field field) {
            this.field = field;
            plainOne[0] = 1;
            seven[0] = 7;
            field.lift(seven, seven);
        }

        /** Unity k, lifted. */
        void liftedRoot(long[] to, int k) {
            rootExponent(k);
            field.raise(to, seven, exponent);
        }

        private void rootExponent(int k) {
            field.negate(next, plainOne);
            Limbs.shiftRight(exponent, next, k);
        }

        /** 2^k times (R - 1) / 2^k is -1, so the opposite of the latter divides by 2^k. */
        private void findShare(int k) {
            rootExponent(k);
            field.negate(share, exponent);
            field.lift(share, share);
        }

        /** The coefficients become the quotient's by x - z (z lifted), and value the rest. */
        void divide(long[] value, long[][] rows, int from, int n, long[] z) {
            Limbs.clear(value);
            for (int i = from + n - 1; i >= from; i--) {
                field.multiply(next, value, z);
                field.add(next, next, rows[i]);
                Limbs.copy(rows[i], value);
                Limbs.copy(value, next);
            }
        }

        void evaluate(long[][] rows, int from, int k) {
            findValues(rows, from, k);
            for (int i = 0; i < 1 << k; i++) {
                Limbs.copy(rows[from + i], values[i]);
            }
        }

        /** The inverse transform is the transform with the roots in backward order, shared out. */
        void interpolate(long[][] rows, int from, int k) {
            int n = 1 << k;
            findValues(rows, from, k);
            findShare(k);
            for (int i = 0; i < n; i++) {
                field.multiply(rows[from + i], values[n - i & n - 1], share);
            }
        }

        private void findValues(long[][] rows, int from, int k) {
            int n = 1 << k;
            liftedRoot(root, k);
            Limbs.copy(place, field.one);
            for (int i = 0; i < n && i < MOST; i++) {
                Limbs.clear(values[i]);
                for (int j = from + n - 1; j >= from; j--) {
                    field.multiply(values[i], values[i], place);
                    field.add(values[i], values[i], rows[j]);
                }
                field.multiply(place, place, root);
            }
        }

        /**
         * With u = z / w^i the polynomial is (1 + u + u^2 + .. + u^(n - 1)) / n: no division, so no
         * root of unity is an exception. z is lifted, the value plain.
         */
        void basis(long[] to, int k, int i, long[] z) {
            int n = 1 << k;
            liftedRoot(root, k);
            Limbs.copy(place, z);
            for (int j = i; j < n; j++) {
                field.multiply(place, place, root);
            }
            findShare(k);
            Limbs.clear(to);
            for (int j = 0; j < n; j++) {
                field.multiply(to, to, place);
                field.add(to, to, plainOne);
            }
            field.multiply(to, to, share);
        }
    }
}
