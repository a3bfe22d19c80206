import java.lang.management.ManagementFactory;
import java.math.BigInteger;

/** What the document says of all calls: the first of several exceptions, 512 calls, memory made once. */
public final class ObjectEdgesTest {
    private static final BigInteger[] G = PlainDesk.G;

    public static void main(String[] args) {
        firstOfSeveralExceptionsOfFeed();
        firstOfSeveralExceptionsOfReckon();
        firstOfSeveralExceptionsOfCommit();
        rightUpToTheLastOf512Calls();
        rightAfterManyRefusedCalls();
        objectsKnowNothingOfEachOther();
        memoryIsMadeOnce();
        Pair.end();
    }

    /** Terms: "Of several exceptions that hold the one listed first is thrown": feed on a full tape. */
    private static void firstOfSeveralExceptionsOfFeed() {
        Pair x = Pair.furnished("two exceptions of feed");
        x.call(1, "point", 0);
        x.feedBytes(PlainDesk.form(G, false));
        for (int n : Pair.outside(1, 8)) {
            x.illegal("feed", n, 1);
        }
        x.refused("IllegalStateException", "feed", 1, 1);
        x.refused("IllegalStateException", "feed", 8, 1);
        x.seeWhole();
    }

    /** The same of reckon: a division by 0 with another fault beside it. */
    private static void firstOfSeveralExceptionsOfReckon() {
        Pair x = Pair.furnished("two exceptions of reckon");
        for (int none : Pair.NO_SCALARS) {
            x.illegal("reckon", 3, none, 1, Pair.ZERO);
            x.illegal("reckon", 3, 1, none, Pair.ZERO);
            x.illegal("reckon", 3, none, none, Pair.ZERO);
        }
        for (int what : Pair.outside(0, 3)) {
            x.illegal("reckon", what, 1, 2, Pair.ZERO);
        }
        x.refused("ArithmeticException", "reckon", 3, 1, 2, Pair.ZERO);
        x.seeWhole();
    }

    /** The same of commit: too few powers with another fault beside it. */
    private static void firstOfSeveralExceptionsOfCommit() {
        Pair x = Pair.furnished("two exceptions of commit");
        for (int none : Pair.NO_POINTS) {
            x.illegal("commit", none, 0, Pair.POWERS + 1);
        }
        for (int none : Pair.NO_SCALARS) {
            x.illegal("commit", 3, none, Pair.POWERS + 1);
        }
        x.illegal("commit", 3, 32 - Pair.POWERS, Pair.POWERS + 1);
        x.illegal("commit", 3, 17, 16);
        x.illegal("commit", 3, 0, 17);
        x.refused("IllegalStateException", "commit", 3, 31 - Pair.POWERS, Pair.POWERS + 1);
        x.refused("IllegalStateException", "commit", 3, 16, 16);
        x.seeWhole();
        Pair y = new Pair("two exceptions of commit, no powers");
        y.illegal("commit", 3, 32, 1);
        y.illegal("commit", 12, 0, 1);
        y.illegal("commit", 3, 0, 17);
        y.refused("IllegalStateException", "commit", 3, 31, 1);
    }

    /** "An object is used for at most 512 calls": all kinds of calls again and again, the whole state at the end. */
    private static void rightUpToTheLastOf512Calls() {
        Pair x = Pair.furnished("512 calls");
        int round = 0;
        while (x.hasRoomFor(9)) {
            x.call("setup", round % 16, 1 + round * 5 % 16);
            x.call("commit", round % 12, round % 8, 1);
            x.call("combine", (round + 5) % 12, round, 0, 12);
            x.call("transform", round % 16, 4, round % 2);
            x.call("open", round % 16, 16, 30, 31);
            x.call("times", (round + 7) % 12, 29, round % 12);
            x.call("lagrange", 28, 4, round, 29);
            x.call("checks", 0, 1, 2, 3, 4);
            x.call("bytes", round % 12, 0);
            round++;
        }
        while (x.hasRoomFor(1)) {
            x.call("join", 2, 1, 1, 0);
        }
        x.seeWhole();
        while (x.calls() < Pair.MOST_CALLS) {
            x.call("word", 30, x.calls() % 8);
        }
    }

    /** Refused calls count as calls, and are all that an object may have had before one that is in order. */
    private static void rightAfterManyRefusedCalls() {
        Pair x = new Pair("refused calls alone");
        while (x.hasRoomFor(9)) {
            x.illegal("feed", 9, 1);
            x.illegal("set", 0, -1);
            x.illegal("join", 4, 0, 0, 0);
            x.illegal("setup", 0, 17);
            x.illegal("transform", 31, 1, 0);
            x.refused("ArithmeticException", "reckon", 3, 0, 0, 0);
            x.refused("IllegalStateException", "commit", 0, 0, 1);
            x.refused("NoSuchElementException", "out", 0);
            x.illegal("look", 3);
        }
        x.seeWhole();
    }

    /** Promise 1 holds for an object that is made beside a used one, and calls of one change no other. */
    private static void objectsKnowNothingOfEachOther() {
        Pair before = new Pair("made before");
        Pair used = Pair.furnished("the used one");
        Pair after = new Pair("made after");
        used.call("transform", 0, 4, 0);
        used.call("checks", 1, 2, 3, 4, 5);
        before.seeWhole();
        after.seeWhole();
        used.seeWhole();
    }

    /** Terms: "All memory is the class's own, made once": no call that answers makes an object. */
    private static void memoryIsMadeOnce() {
        com.sun.management.ThreadMXBean bean = (com.sun.management.ThreadMXBean) ManagementFactory.getThreadMXBean();
        KateDesk desk = new KateDesk();
        allCalls(desk);
        long before = bean.getCurrentThreadAllocatedBytes();
        long still = bean.getCurrentThreadAllocatedBytes();
        allCalls(desk);
        long made = bean.getCurrentThreadAllocatedBytes() - still - (still - before);
        Pair.due("the bytes that all calls make", String.valueOf(made), "0");
    }

    private static void allCalls(KateDesk x) {
        x.set(0, 1000003);
        x.power(1, 0, Long.MAX_VALUE);
        x.unity(2, 32);
        for (int what = 0; what < 4; what++) {
            x.reckon(what, 3 + what, 1, 2);
            x.join(what, what, 0, 1);
        }
        x.setup(1, 16);
        x.commit(4, 0, 16);
        x.open(0, 16, 1, 20);
        x.commit(5, 0, 16);
        x.checks(4, 5, 1, 20, 2);
        x.transform(0, 4, false);
        x.transform(0, 4, true);
        x.lagrange(8, 4, 3, 2);
        x.times(6, 1, 4);
        x.combine(7, 0, 0, 12);
        x.same(6, 7);
        feedWhatWasWritten(x, false);
        x.point(8);
        feedWhatWasWritten(x, true);
        x.point(9);
        x.feed(8, -1);
        x.number(10);
        for (int what = 0; what < 3; what++) {
            x.look(what);
            x.word(1, what);
        }
    }

    private static void feedWhatWasWritten(KateDesk x, boolean shorter) {
        x.bytes(7, shorter);
        for (int k = 0; k < x.look(2); k += 8) {
            x.feed(8, x.out(k));
        }
    }
}
