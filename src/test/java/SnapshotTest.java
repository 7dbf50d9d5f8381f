/** Promise 10: snapshot. */
public final class SnapshotTest {
    private static final Checks CHECKS = new Checks();

    public static void main(String[] args) {
        CarDisk disk = new CarDisk(8);
        CHECKS.due("no rows", disk.snapshot(), 1);
        Checks.row(disk, 1, 5, 12, 19);
        CHECKS.due("a row that waits", disk.snapshot(), 1);
        Checks.row(disk, 4, 9, 16, 23, 30);
        disk.sync();
        CHECKS.due("two rows", disk.snapshot(), 613319335);
        disk.add((byte) 1);
        CHECKS.due("octets of the next row", disk.snapshot(), 613319335);
        disk.cut(0, 0);
        CHECKS.due("closed", disk.snapshot(), -3);
        disk.open();
        CHECKS.due("opened", disk.snapshot(), 613319335);
        theOldestIsGone();
        octetsAreWithoutSign();
        CHECKS.finish();
    }

    private static void theOldestIsGone() {
        CarDisk disk = new CarDisk(8);
        Checks.rows(disk, 2, 6, 0);
        disk.sync();
        Checks.row(disk, 3, 7, 8);
        disk.sync();
        int due = Checks.sum(2, 1, 2, 2, 2, 3, 2, 4, 2, 5, 3, 7, 8);
        CHECKS.due("rows 2 to 7", disk.snapshot(), due);
    }

    private static void octetsAreWithoutSign() {
        CarDisk disk = new CarDisk(8);
        Checks.row(disk, 1, -1, -128);
        disk.sync();
        CHECKS.due("octets 255 and 128", disk.snapshot(), Checks.sum(1, 255, 128));
    }
}
