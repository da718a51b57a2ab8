/** Locks that many tests begin with. */
final class Locks {
    static final int UP = 0;
    static final int DOWN = 1;
    static final int LEFT = 0;
    static final int RIGHT = 1;
    static final int EITHER = 2;

    /** Numbers that no span of the document holds, far below and far above. */
    static final int[] FAR = {Integer.MIN_VALUE, Integer.MIN_VALUE + 1, -1000, -2, 10002,
        Integer.MAX_VALUE - 1, Integer.MAX_VALUE};

    private Locks() {
    }

    static LockRuns one(int length, int width, int fill) {
        LockRuns lock = new LockRuns();
        lock.chamber(length, width, fill);
        return lock;
    }

    static LockRuns two(int length, int width, int fill) {
        LockRuns lock = one(length, width, fill);
        lock.chamber(length, width, fill);
        return lock;
    }

    /** One chamber that takes one ship at a time. */
    static LockRuns narrow(int fill) {
        return one(8, 1, fill);
    }

    /** A ship that fills a narrow chamber. */
    static int longShip(LockRuns lock, int arrives, int direction) {
        return lock.ship(8, 1, arrives, direction, EITHER);
    }

    /** The numbers just outside a span, and those far outside it. */
    static int[] outside(int least, int most) {
        int[] all = new int[FAR.length + 2];
        all[0] = least - 1;
        all[1] = most + 1;
        System.arraycopy(FAR, 0, all, 2, FAR.length);
        return all;
    }
}
