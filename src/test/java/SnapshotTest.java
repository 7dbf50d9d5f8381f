/** Promise 10: snapshot. */
public final class SnapshotTest {
    private static final Checks CHECKS = new Checks();

    public static void main(String[] args) {
        noRows();
        kindThenOctets();
        notThoseThatWait();
        notTheNextRowsOctets();
        theOldestIsGone();
        aFullDisk();
        aRowWithoutOctets();
        closed();
        CHECKS.finish();
    }

    private static CarDisk twoRows() {
        CarDisk disk = new CarDisk(8);
        Checks.row(disk, 1, 5, 12, 19);
        Checks.row(disk, 4, 9, 16, 23, 30);
        disk.sync();
        return disk;
    }

    /** "s = 1 at first" */
    private static void noRows() {
        CarDisk disk = new CarDisk(8);
        CHECKS.due("no rows", disk.snapshot(), 1);
        disk.sync();
        CHECKS.due("a head alone", disk.snapshot(), 1);
        Checks.reopen(disk);
        CHECKS.due("opened", disk.snapshot(), 1);
    }

    /** "from the oldest on (of each its KIND, then its octets)" */
    private static void kindThenOctets() {
        CHECKS.due("two rows", twoRows().snapshot(), 613319335);
        CHECKS.due("worked out", Checks.sum(1, 5, 12, 19, 4, 9, 16, 23, 30), 613319335);
    }

    /** "of ROWS that were written" */
    private static void notThoseThatWait() {
        CarDisk disk = new CarDisk(8);
        Checks.row(disk, 1, 5, 12, 19);
        CHECKS.due("a row that waits", disk.snapshot(), 1);
        CarDisk other = twoRows();
        Checks.row(other, 1, 5);
        CHECKS.due("one that waits behind two", other.snapshot(), 613319335);
    }

    private static void notTheNextRowsOctets() {
        CarDisk disk = twoRows();
        disk.add((byte) 1);
        CHECKS.due("octets of the next row", disk.snapshot(), 613319335);
    }

    private static void theOldestIsGone() {
        CarDisk disk = new CarDisk(8);
        Checks.rows(disk, 2, 6, 0);
        disk.sync();
        Checks.row(disk, 3, 7, 8);
        disk.sync();
        int due = Checks.sum(2, 1, 2, 2, 2, 3, 2, 4, 2, 5, 3, 7, 8);
        CHECKS.due("rows 2 to 7", disk.snapshot(), due);
        Checks.reopen(disk);
        CHECKS.due("rows 2 to 7, opened", disk.snapshot(), due);
    }

    /** Rows of 48 octets in a whole ring. */
    private static void aFullDisk() {
        CarDisk disk = new CarDisk(8);
        int[] summed = new int[6 * 49];
        for (int row = 0; row < 6; row++) {
            summed[49 * row] = 1 + row % 4;
            for (int i = 0; i < 48; i++) {
                disk.add((byte) (48 * row + i));
                summed[49 * row + 1 + i] = 48 * row + i & 255;
            }
            disk.end(1 + row % 4);
        }
        disk.sync();
        CHECKS.due("a full disk", disk.snapshot(), Checks.sum(summed));
    }

    private static void aRowWithoutOctets() {
        CarDisk disk = new CarDisk(8);
        Checks.lay(disk, 2, Checks.rowTelling(255, 1, 3, 7));
        Checks.reopen(disk);
        CHECKS.due("its kind alone", disk.snapshot(), Checks.sum(3));
    }

    /** "-3 the disk is CLOSED" */
    private static void closed() {
        CarDisk disk = twoRows();
        disk.cut(0, 0);
        CHECKS.due("closed", disk.snapshot(), -3);
        disk.open();
        CHECKS.due("opened", disk.snapshot(), 613319335);
    }
}
