/** Promise 11: log. */
public final class LogTest {
    private static final Checks CHECKS = new Checks();

    public static void main(String[] args) {
        noRows();
        theOldestIsTheFirst();
        tooSmall();
        tooLarge();
        notThoseThatWait();
        theRingWentRound();
        aFullRing();
        closed();
        CHECKS.finish();
    }

    private static CarDisk synced(int rows) {
        CarDisk disk = new CarDisk(8);
        Checks.rows(disk, 1, rows, 0);
        disk.sync();
        return disk;
    }

    private static void noRows() {
        CHECKS.dueLog("a new disk", new CarDisk(8));
        CHECKS.dueLog("a head alone", synced(0));
    }

    /** "The NUMBER of the n-th ROW (from 0, the oldest) that was written" */
    private static void theOldestIsTheFirst() {
        CHECKS.dueLog("one row", synced(1), 1);
        CHECKS.dueLog("two rows", synced(2), 1, 2);
    }

    /** "0 if there is none": too small. */
    private static void tooSmall() {
        dueNone(-1, -2, Integer.MIN_VALUE);
    }

    /** "0 if there is none": too large. */
    private static void tooLarge() {
        dueNone(2, 3, 5, 6, 62, Integer.MAX_VALUE);
    }

    private static void dueNone(int... others) {
        CarDisk disk = synced(2);
        for (int n : others) {
            CHECKS.due("log(" + n + ") of two rows", disk.log(n), 0);
        }
    }

    private static void notThoseThatWait() {
        CarDisk disk = synced(1);
        Checks.rows(disk, 1, 2, 0);
        CHECKS.dueLog("two wait", disk, 1);
        disk.sync();
        CHECKS.dueLog("they are written", disk, 1, 2, 3);
    }

    private static void theRingWentRound() {
        CarDisk disk = synced(2);
        Checks.rows(disk, 1, 6, 0);
        disk.sync();
        CHECKS.dueLog("eight rows", disk, 3, 4, 5, 6, 7, 8);
    }

    private static void aFullRing() {
        CHECKS.dueLog("five rows", synced(5), 1, 2, 3, 4, 5);
        CHECKS.dueLog("six rows", synced(6), 1, 2, 3, 4, 5, 6);
    }

    /** "or the disk is CLOSED" */
    private static void closed() {
        CarDisk disk = synced(2);
        disk.cut(0, 0);
        CHECKS.due("closed", disk.log(0), 0);
        CHECKS.due("closed", disk.log(1), 0);
        CHECKS.due("closed, none", disk.log(-1), 0);
        CHECKS.due("closed, none", disk.log(2), 0);
        disk.open();
        CHECKS.dueLog("opened", disk, 1, 2);
    }
}
