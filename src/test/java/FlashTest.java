/** Promise 12: flash. */
public final class FlashTest {
    private static final Checks CHECKS = new Checks();

    public static void main(String[] args) {
        CarDisk disk = new CarDisk(8);
        Checks.row(disk, 4, 7, 10, 11);
        CHECKS.due("a row that waits", disk.flash(7, 0), -1);
        Checks.row(disk, 3, 7, 99);
        Checks.row(disk, 4, 8, 20);
        Checks.row(disk, 4, 7);
        Checks.row(disk, 4, 7, 200, 13);
        Checks.row(disk, 4, -1, 1);
        disk.sync();
        dueFile(disk, 7, 10, 11, 200, 13);
        dueFile(disk, 8, 20);
        dueFile(disk, 255, 1);
        int[] none = {0, -1, -249, 256, 263, Integer.MIN_VALUE, Integer.MAX_VALUE};
        for (int file : none) {
            dueFile(disk, file);
        }
        disk.cut(0, 0);
        CHECKS.due("closed", disk.flash(7, 0), -1);
        disk.open();
        dueFile(disk, 7, 10, 11, 200, 13);
        theOldestIsGone(disk);
        rowsThatTellNoOctets();
        aLongFile();
        CHECKS.finish();
    }

    private static void dueFile(CarDisk disk, int file, int... octets) {
        for (int i = 0; i < octets.length; i++) {
            CHECKS.due("flash(" + file + ", " + i + ")", disk.flash(file, i), octets[i]);
        }
        int[] none = {-1, octets.length, Integer.MIN_VALUE, Integer.MAX_VALUE};
        for (int i : none) {
            CHECKS.due("flash(" + file + ", " + i + ")", disk.flash(file, i), -1);
        }
    }

    private static void theOldestIsGone(CarDisk disk) {
        Checks.row(disk, 4, 7, 14);
        disk.sync();
        dueFile(disk, 7, 200, 13, 14);
    }

    private static void rowsThatTellNoOctets() {
        CarDisk disk = new CarDisk(8);
        Checks.lay(disk, 2, Checks.rowTelling(0, 1, 4, 0, 5));
        Checks.lay(disk, 3, Checks.rowTelling(128, 2, 4, 0, 6));
        Checks.lay(disk, 4, Checks.rowTelling(2, 3, 4, 0, 7));
        CHECKS.due("open()", Checks.reopen(disk), 3);
        dueFile(disk, 0, 7);
    }

    private static void aLongFile() {
        CarDisk disk = new CarDisk(8);
        for (int row = 0; row < 2; row++) {
            disk.add((byte) 1);
            for (int n = 0; n < 47; n++) {
                disk.add((byte) (47 * row + n));
            }
            disk.end(4);
        }
        disk.sync();
        int[] octets = new int[94];
        for (int i = 0; i < octets.length; i++) {
            octets[i] = i;
        }
        dueFile(disk, 1, octets);
    }
}
