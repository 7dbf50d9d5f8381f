import java.util.Arrays;

/** Promise 4: sync, and what a SYNC writes. */
public final class SyncTest {
    private static final Checks CHECKS = new Checks();

    public static void main(String[] args) {
        rowsAndHeadAreWritten();
        asManyAsCanWait();
        rowsOverRows();
        noneForANewDisk();
        noneForAnEmptyDiskThatWasOpened();
        aSyncWithoutRows();
        anEvenNumberOfHeads();
        anOddNumberOfHeads();
        headsBeginAnewBehindAnOddNumber();
        headsBeginAnewBehindAnEvenNumber();
        theHeadOfACutDoesNotCount();
        rowsWithoutAHeadAreAcknowledged();
        theHeadIsAheadOfTheRows();
        octetsAreNoRow();
        closed();
        CHECKS.finish();
    }

    /** "all that WAIT are written, in order; then a HEAD with the NUMBER of the last ROW" */
    private static void rowsAndHeadAreWritten() {
        CarDisk disk = new CarDisk(8);
        int[] full = new int[48];
        Arrays.fill(full, 200);
        Checks.row(disk, 3, 1, 2, 255);
        Checks.row(disk, 4, full);
        CHECKS.due("sync()", disk.sync(), 2);
        CHECKS.due("nothing waits", disk.space(1), 0);
        CHECKS.dueSector("row 1", disk, 2, Checks.rowSector(1, 3, 1, 2, 255));
        CHECKS.dueSector("row 2", disk, 3, Checks.rowSector(2, 4, full));
        CHECKS.dueSector("nothing behind them", disk, 4, new int[64]);
        CHECKS.dueSector("head 0", disk, 0, Checks.head(2));
        CHECKS.dueSector("head 1", disk, 1, new int[64]);
    }

    /** "all that WAIT": R of them, and all sectors of the ring are full. */
    private static void asManyAsCanWait() {
        for (int sectors = 8; sectors <= 64; sectors += 28) {
            CarDisk disk = new CarDisk(sectors);
            int ring = sectors - 2;
            Checks.rows(disk, 1, ring, 40);
            CHECKS.due("sync()", disk.sync(), ring);
            CHECKS.due("no room is left", disk.space(0), 0);
            CHECKS.dueSector("the first", disk, 2, Checks.rowSector(1, 1, 40));
            CHECKS.dueSector("the last", disk, sectors - 1, Checks.rowSector(ring, 1, 39 + ring));
            CHECKS.dueSector("the head", disk, 0, Checks.head(ring));
        }
    }

    /** The ring goes round: the oldest rows are written over. */
    private static void rowsOverRows() {
        CarDisk disk = new CarDisk(8);
        Checks.rows(disk, 1, 6, 10);
        disk.sync();
        Checks.rows(disk, 2, 2, 20);
        CHECKS.due("sync()", disk.sync(), 8);
        CHECKS.dueSector("row 7", disk, 2, Checks.rowSector(7, 2, 20));
        CHECKS.dueSector("row 8", disk, 3, Checks.rowSector(8, 2, 21));
        CHECKS.dueSector("row 3", disk, 4, Checks.rowSector(3, 1, 12));
        CHECKS.dueLog("the rows", disk, 3, 4, 5, 6, 7, 8);
    }

    /** "(0 for none)" */
    private static void noneForANewDisk() {
        CarDisk disk = new CarDisk(8);
        CHECKS.due("sync() of nothing", disk.sync(), 0);
        CHECKS.due("sync() of nothing again", disk.sync(), 0);
        CHECKS.dueSector("a head that tells of none", disk, 0, Checks.head(0));
        CHECKS.dueSector("another", disk, 1, Checks.head(0));
    }

    private static void noneForAnEmptyDiskThatWasOpened() {
        CarDisk disk = new CarDisk(8);
        Checks.row(disk, 1, 1);
        Checks.reopen(disk);
        CHECKS.due("the row was lost", disk.sync(), 0);
        CHECKS.due("open() with a head of none", Checks.reopen(disk), 0);
        CHECKS.due("the first number", disk.space(3), 1);
    }

    private static void aSyncWithoutRows() {
        CarDisk disk = new CarDisk(8);
        Checks.row(disk, 1, 1);
        CHECKS.due("sync()", disk.sync(), 1);
        CHECKS.due("sync() once more", disk.sync(), 1);
        CHECKS.dueSector("the first head", disk, 0, Checks.head(1));
        CHECKS.dueSector("the second head", disk, 1, Checks.head(1));
        CHECKS.due("the row is still known", disk.log(0), 1);
    }

    /** "into HEAD 0 if there were an even number of HEADS written" */
    private static void anEvenNumberOfHeads() {
        dueHeads(1, 1, 0);
        dueHeads(3, 3, 2);
        dueHeads(5, 5, 4);
    }

    /** "otherwise into HEAD 1" */
    private static void anOddNumberOfHeads() {
        dueHeads(2, 1, 2);
        dueHeads(4, 3, 4);
        dueHeads(6, 5, 6);
    }

    private static void dueHeads(int syncs, int first, int second) {
        CarDisk disk = new CarDisk(8);
        for (int n = 1; n <= syncs; n++) {
            Checks.row(disk, 1, n);
            CHECKS.due("sync()", disk.sync(), n);
        }
        String name = "behind " + syncs + " syncs";
        CHECKS.dueSector(name, disk, 0, Checks.head(first));
        CHECKS.dueSector(name, disk, 1, second == 0 ? new int[64] : Checks.head(second));
    }

    /** "since the disk was opened (or made) last" */
    private static void headsBeginAnewBehindAnOddNumber() {
        CarDisk disk = new CarDisk(8);
        Checks.row(disk, 1, 1);
        disk.sync();
        Checks.reopen(disk);
        Checks.row(disk, 1, 2);
        CHECKS.due("sync()", disk.sync(), 2);
        CHECKS.dueSector("head 0 again", disk, 0, Checks.head(2));
        CHECKS.dueSector("head 1 is untouched", disk, 1, new int[64]);
        Checks.row(disk, 1, 3);
        CHECKS.due("sync()", disk.sync(), 3);
        CHECKS.dueSector("head 1 next", disk, 1, Checks.head(3));
    }

    private static void headsBeginAnewBehindAnEvenNumber() {
        CarDisk disk = new CarDisk(8);
        disk.sync();
        disk.sync();
        Checks.reopen(disk);
        Checks.row(disk, 1, 1);
        disk.sync();
        CHECKS.dueSector("head 0", disk, 0, Checks.head(1));
        CHECKS.dueSector("head 1", disk, 1, Checks.head(0));
    }

    private static void theHeadOfACutDoesNotCount() {
        CarDisk disk = new CarDisk(8);
        Checks.row(disk, 1, 1);
        disk.cut(2, 0);
        disk.open();
        Checks.row(disk, 1, 2);
        disk.sync();
        CHECKS.dueSector("head 0 over the cut's", disk, 0, Checks.head(2));
        CHECKS.dueSector("head 1 is untouched", disk, 1, new int[64]);
    }

    /** Rows that a cut wrote, but not their head: the next sync's head tells of them. */
    private static void rowsWithoutAHeadAreAcknowledged() {
        CarDisk disk = new CarDisk(8);
        Checks.rows(disk, 1, 2, 0);
        disk.cut(2, 0);
        CHECKS.due("open()", disk.open(), 2);
        CHECKS.due("sync() of nothing new", disk.sync(), 2);
        CHECKS.dueSector("the head", disk, 0, Checks.head(2));
    }

    /** A head that tells of later rows than are there: their numbers are not used again. */
    private static void theHeadIsAheadOfTheRows() {
        CarDisk disk = new CarDisk(8);
        Checks.rows(disk, 1, 2, 0);
        disk.sync();
        disk.poke(3 * 64 + 6, 1);
        CHECKS.due("open()", Checks.reopen(disk), 1);
        CHECKS.due("sync() of nothing", disk.sync(), 2);
        CHECKS.due("the next number", disk.space(3), 3);
    }

    private static void octetsAreNoRow() {
        CarDisk disk = new CarDisk(8);
        disk.add((byte) 1);
        CHECKS.due("sync() with octets alone", disk.sync(), 0);
        CHECKS.due("no row", disk.log(0), 0);
        CHECKS.dueSector("nothing is written", disk, 2, new int[64]);
    }

    /** "-3 the disk is CLOSED" */
    private static void closed() {
        CarDisk disk = new CarDisk(8);
        Checks.row(disk, 1, 1);
        disk.cut(0, 0);
        CHECKS.due("sync() when closed", disk.sync(), -3);
        CHECKS.due("still closed", disk.sync(), -3);
        CHECKS.dueSector("no head", disk, 0, new int[64]);
        CHECKS.dueSector("no row", disk, 2, new int[64]);
        disk.open();
        CHECKS.due("opened", disk.sync(), 0);
    }
}
