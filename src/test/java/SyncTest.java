/** Promise 4: sync. */
public final class SyncTest {
    private static final Checks CHECKS = new Checks();

    public static void main(String[] args) {
        rowsAndHeadAreWritten();
        headsTakeTurns();
        headsBeginAnewWhenOpened();
        aSyncWithoutRows();
        theRing();
        theHeadIsAheadOfTheRows();
        closed();
        CHECKS.finish();
    }

    private static void rowsAndHeadAreWritten() {
        CarDisk disk = new CarDisk(8);
        int[] full = new int[48];
        java.util.Arrays.fill(full, 200);
        Checks.row(disk, 3, 1, 2, 255);
        Checks.row(disk, 4, full);
        CHECKS.due("sync()", disk.sync(), 2);
        CHECKS.due("nothing waits", disk.space(1), 0);
        CHECKS.dueSector("row 1", disk, 2, Checks.rowSector(1, 3, 1, 2, 255));
        CHECKS.dueSector("row 2", disk, 3, Checks.rowSector(2, 4, full));
        CHECKS.dueSector("head 0", disk, 0, Checks.head(2));
        CHECKS.dueSector("head 1", disk, 1, new int[64]);
    }

    private static void headsTakeTurns() {
        CarDisk disk = new CarDisk(8);
        for (int n = 1; n <= 3; n++) {
            Checks.row(disk, 1, n);
            CHECKS.due("sync()", disk.sync(), n);
        }
        CHECKS.dueSector("head of the third", disk, 0, Checks.head(3));
        CHECKS.dueSector("head of the second", disk, 1, Checks.head(2));
    }

    private static void headsBeginAnewWhenOpened() {
        CarDisk disk = new CarDisk(8);
        Checks.row(disk, 1, 1);
        disk.sync();
        Checks.reopen(disk);
        Checks.row(disk, 1, 2);
        CHECKS.due("sync()", disk.sync(), 2);
        CHECKS.dueSector("head 0 again", disk, 0, Checks.head(2));
        CHECKS.dueSector("head 1 is untouched", disk, 1, new int[64]);
    }

    private static void aSyncWithoutRows() {
        CarDisk disk = new CarDisk(8);
        CHECKS.due("sync() of nothing", disk.sync(), 0);
        CHECKS.dueSector("a head that tells of none", disk, 0, Checks.head(0));
        Checks.row(disk, 1, 1);
        CHECKS.due("sync()", disk.sync(), 1);
        CHECKS.due("sync() once more", disk.sync(), 1);
        CHECKS.dueSector("the third head", disk, 0, Checks.head(1));
        CHECKS.dueSector("the second head", disk, 1, Checks.head(1));
    }

    private static void theRing() {
        CarDisk disk = new CarDisk(8);
        Checks.rows(disk, 1, 6, 10);
        disk.sync();
        Checks.rows(disk, 2, 2, 20);
        CHECKS.due("sync()", disk.sync(), 8);
        CHECKS.dueSector("row 7", disk, 2, Checks.rowSector(7, 2, 20));
        CHECKS.dueSector("row 8", disk, 3, Checks.rowSector(8, 2, 21));
        CHECKS.dueSector("row 3", disk, 4, Checks.rowSector(3, 1, 12));
        CHECKS.due("the oldest", disk.log(0), 3);
    }

    /** A head that tells of later rows than are there: their numbers are not used again. */
    private static void theHeadIsAheadOfTheRows() {
        CarDisk disk = new CarDisk(8);
        Checks.rows(disk, 1, 2, 0);
        disk.sync();
        disk.poke(3 * 64 + 6, 1);
        CHECKS.due("open()", Checks.reopen(disk), 1);
        CHECKS.due("sync() of nothing", disk.sync(), 2);
        CHECKS.due("the next number", disk.space(3), 3);
    }

    private static void closed() {
        CarDisk disk = new CarDisk(8);
        disk.cut(0, 0);
        CHECKS.due("sync() when closed", disk.sync(), -3);
        CHECKS.dueSector("no head", disk, 0, new int[64]);
    }
}
