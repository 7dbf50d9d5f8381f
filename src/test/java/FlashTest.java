/** Promise 12: flash. */
public final class FlashTest {
    private static final Checks CHECKS = new Checks();

    public static void main(String[] args) {
        octetsOfAllItsRows();
        theLeastFile();
        theGreatestFile();
        filesBelow();
        filesAbove();
        noSuchFile();
        placesOutside();
        aRowOfItsNameAlone();
        otherKinds();
        notThoseThatWait();
        theOldestIsGone();
        rowsWithoutOctets();
        theLongestFile();
        closed();
        CHECKS.finish();
    }

    private static CarDisk some() {
        CarDisk disk = new CarDisk(8);
        Checks.row(disk, 4, 7, 10, 11);
        Checks.row(disk, 3, 7, 99);
        Checks.row(disk, 4, 8, 20);
        Checks.row(disk, 4, 7);
        Checks.row(disk, 4, 7, 200, 13);
        disk.sync();
        return disk;
    }

    private static void dueFile(CarDisk disk, int file, int... octets) {
        for (int i = 0; i < octets.length; i++) {
            CHECKS.due("flash(" + file + ", " + i + ")", disk.flash(file, i), octets[i]);
        }
        int behind = octets.length;
        CHECKS.due("flash(" + file + ", " + behind + ")", disk.flash(file, behind), -1);
    }

    /** "their other octets one behind the other, from the oldest on: octet i of that (0 .. 255)" */
    private static void octetsOfAllItsRows() {
        CarDisk disk = some();
        dueFile(disk, 7, 10, 11, 200, 13);
        dueFile(disk, 8, 20);
    }

    /** "the file (0 .. 255)": 0. */
    private static void theLeastFile() {
        CarDisk disk = new CarDisk(8);
        Checks.row(disk, 4, 0, 0, 255);
        disk.sync();
        dueFile(disk, 0, 0, 255);
    }

    /** "the file (0 .. 255)": 255. */
    private static void theGreatestFile() {
        CarDisk disk = new CarDisk(8);
        Checks.row(disk, 4, 255, 128, 127);
        Checks.row(disk, 4, 128, 1);
        disk.sync();
        dueFile(disk, 255, 128, 127);
        dueFile(disk, 128, 1);
    }

    /** Too small: no octet is -1, though one added as -1 is 255. */
    private static void filesBelow() {
        CarDisk disk = new CarDisk(8);
        Checks.row(disk, 4, -1, 5);
        Checks.row(disk, 4, 0, 6);
        disk.sync();
        dueNoFile(disk, -1, -255, -256, Integer.MIN_VALUE);
        dueFile(disk, 255, 5);
    }

    /** Too large. */
    private static void filesAbove() {
        CarDisk disk = new CarDisk(8);
        Checks.row(disk, 4, 255, 5);
        Checks.row(disk, 4, 0, 6);
        disk.sync();
        dueNoFile(disk, 256, 511, 512, Integer.MAX_VALUE);
    }

    private static void dueNoFile(CarDisk disk, int... files) {
        for (int file : files) {
            dueFile(disk, file);
        }
    }

    private static void noSuchFile() {
        dueNoFile(some(), 0, 6, 9, 255);
        dueNoFile(new CarDisk(8), 0, 1, 255);
    }

    /** "-1 if there is none" */
    private static void placesOutside() {
        CarDisk disk = some();
        int[] places = {-1, -2, 4, 5, 48, 1000, Integer.MIN_VALUE, Integer.MAX_VALUE};
        for (int i : places) {
            CHECKS.due("flash(7, " + i + ")", disk.flash(7, i), -1);
        }
    }

    /** A row that has the file's octet alone adds nothing to it. */
    private static void aRowOfItsNameAlone() {
        CarDisk disk = new CarDisk(8);
        Checks.row(disk, 4, 7);
        disk.sync();
        dueFile(disk, 7);
        Checks.row(disk, 4, 7, 1);
        disk.sync();
        dueFile(disk, 7, 1);
    }

    /** "the ROWS of KIND 4" */
    private static void otherKinds() {
        for (int kind = 1; kind <= 3; kind++) {
            CarDisk disk = new CarDisk(8);
            Checks.row(disk, kind, 7, 1);
            disk.sync();
            dueFile(disk, 7);
        }
    }

    private static void notThoseThatWait() {
        CarDisk disk = some();
        Checks.row(disk, 4, 7, 14);
        dueFile(disk, 7, 10, 11, 200, 13);
        disk.sync();
        dueFile(disk, 7, 10, 11, 200, 13, 14);
    }

    private static void theOldestIsGone() {
        CarDisk disk = some();
        Checks.row(disk, 4, 7, 14);
        Checks.row(disk, 4, 7, 15);
        disk.sync();
        dueFile(disk, 7, 200, 13, 14, 15);
    }

    /** An altered row may have none, not even the first, which would name a file. */
    private static void rowsWithoutOctets() {
        CarDisk disk = new CarDisk(8);
        Checks.lay(disk, 2, Checks.rowTelling(0, 1, 4, 0, 5));
        Checks.lay(disk, 3, Checks.rowTelling(128, 2, 4, 0, 6));
        Checks.lay(disk, 4, Checks.rowTelling(2, 3, 4, 0, 7));
        CHECKS.due("open()", Checks.reopen(disk), 3);
        dueFile(disk, 0, 7);
    }

    /** Each row of 48 octets adds 47. */
    private static void theLongestFile() {
        CarDisk disk = new CarDisk(8);
        for (int row = 0; row < 6; row++) {
            disk.add((byte) 1);
            for (int n = 0; n < 47; n++) {
                disk.add((byte) (47 * row + n));
            }
            disk.end(4);
        }
        disk.sync();
        int[] places = {0, 46, 47, 93, 94, 140, 187, 188, 234, 235, 281};
        for (int i : places) {
            CHECKS.due("flash(1, " + i + ")", disk.flash(1, i), i & 255);
        }
        CHECKS.due("behind the longest file", disk.flash(1, 282), -1);
    }

    /** "or the disk is CLOSED" */
    private static void closed() {
        CarDisk disk = some();
        disk.cut(0, 0);
        CHECKS.due("closed", disk.flash(7, 0), -1);
        CHECKS.due("closed, no such file", disk.flash(256, 0), -1);
        disk.open();
        dueFile(disk, 7, 10, 11, 200, 13);
    }
}
