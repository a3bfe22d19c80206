/**
 * "Throws IllegalArgumentException when there is no such scalar (as all calls that name some do)",
 * and the same of points: every argument that names one, of every call, on both sides of both ends.
 */
public final class NamesTest {
    private static final int[] SCALARS = {0, 31};
    private static final int[] POINTS = {0, 11};

    public static void main(String[] args) {
        names("number", "s", 4);
        names("set", "s.", 4, 9);
        names("word", "s.", 4, 2);
        for (int what = 0; what < 4; what++) {
            names("reckon", ".sss", what, 4, 5, 6);
            names("join", ".ppp", what, 4, 5, 7);
        }
        names("power", "ss.", 4, 5, 3);
        names("unity", "s.", 4, 7);
        names("point", "p", 4);
        names("bytes", "p.", 4, 0);
        names("bytes", "p.", 4, 1);
        names("times", "psp", 4, 5, 7);
        names("combine", "psp.", 4, 5, 7, 1);
        names("same", "pp", 4, 5);
        names("setup", "s.", 4, 2);
        names("commit", "ps.", 4, 5, 1);
        names("open", "s.ss", 4, 1, 5, 6);
        names("checks", "ppsss", 4, 5, 6, 7, 8);
        names("transform", "s..", 4, 0, 0);
        names("transform", "s..", 4, 0, 1);
        names("lagrange", "s..s", 4, 3, 5, 6);
        namesWithoutCount();
        Pair.end();
    }

    /** A call that is in order, and what its arguments are: s a scalar, p a point, . neither. */
    private static void names(String method, String kinds, long... inOrder) {
        Pair refused = Pair.furnished(method + ", what is not there");
        Pair taken = Pair.furnished(method + ", what is there");
        for (int i = 0; i < kinds.length(); i++) {
            if (kinds.charAt(i) != '.') {
                boolean scalar = kinds.charAt(i) == 's';
                for (int none : scalar ? Pair.NO_SCALARS : Pair.NO_POINTS) {
                    refused.illegal(method, with(inOrder, i, none));
                }
                for (int some : scalar ? SCALARS : POINTS) {
                    takes(taken, method, with(inOrder, i, some));
                }
            }
        }
        refused.seeWhole();
        taken.seeWhole();
    }

    private static void takes(Pair x, String method, long[] v) {
        String got = x.call(method, v);
        Pair.due(x.name + " is taken", got.startsWith("throws") ? got : "taken", "taken");
    }

    private static long[] with(long[] v, int i, int value) {
        long[] changed = v.clone();
        changed[i] = value;
        return changed;
    }

    /** A sum of no terms asks for none of them, but its point must be there. */
    private static void namesWithoutCount() {
        Pair x = Pair.furnished("n 0, the point is not there");
        for (int none : Pair.NO_POINTS) {
            x.illegal("combine", none, 5, 7, 0);
            x.illegal("combine", none, none, none, 0);
            x.illegal("commit", none, 5, 0);
            x.illegal("commit", none, none, 0);
        }
        x.seeWhole();
    }
}
