/** Promise 13: space. */
public final class SpaceTest {
    private static final Checks CHECKS = new Checks();

    public static void main(String[] args) {
        ofANewDisk();
        ofRowsThatWait();
        ofRowsThatWereWritten();
        ofAFullRing();
        neverBelow0();
        ofRowsThatWereLost();
        theFewestAndTheMost();
        tooSmall();
        tooLarge();
        closed();
        CHECKS.finish();
    }

    private static void dueSpace(String name, CarDisk disk, int free, int waiting, int next) {
        CHECKS.due(name + ", space(0)", disk.space(0), free);
        CHECKS.due(name + ", space(1)", disk.space(1), waiting);
        CHECKS.due(name + ", space(2)", disk.space(2), 6);
        CHECKS.due(name + ", space(3)", disk.space(3), next);
    }

    private static CarDisk synced(int rows) {
        CarDisk disk = new CarDisk(8);
        Checks.rows(disk, 1, rows, 0);
        disk.sync();
        return disk;
    }

    private static void ofANewDisk() {
        dueSpace("new", new CarDisk(8), 6, 0, 1);
        CarDisk disk = new CarDisk(8);
        disk.add((byte) 1);
        dueSpace("octets alone", disk, 6, 0, 1);
    }

    /** "1 how many WAIT" */
    private static void ofRowsThatWait() {
        CarDisk disk = new CarDisk(8);
        for (int n = 1; n <= 6; n++) {
            Checks.row(disk, 1, n);
            dueSpace(n + " wait", disk, 6, n, n + 1);
        }
        Checks.row(disk, 1, 7);
        dueSpace("one was refused", disk, 6, 6, 7);
    }

    /** "0 R less how many ROWS were written" */
    private static void ofRowsThatWereWritten() {
        for (int rows = 0; rows <= 5; rows++) {
            dueSpace(rows + " were written", synced(rows), 6 - rows, 0, rows + 1);
        }
    }

    private static void ofAFullRing() {
        CarDisk disk = synced(6);
        dueSpace("six were written", disk, 0, 0, 7);
        Checks.rows(disk, 1, 6, 0);
        dueSpace("six wait behind them", disk, 0, 6, 13);
    }

    private static void neverBelow0() {
        CarDisk disk = synced(6);
        Checks.rows(disk, 1, 1, 0);
        disk.sync();
        dueSpace("seven were written", disk, 0, 0, 8);
        Checks.rows(disk, 1, 6, 0);
        disk.sync();
        dueSpace("thirteen were written", disk, 0, 0, 14);
    }

    private static void ofRowsThatWereLost() {
        CarDisk disk = synced(6);
        disk.poke(4 * 64, 1);
        dueSpace("not opened yet", disk, 0, 0, 7);
        CHECKS.due("open() with row 3 altered", Checks.reopen(disk), 3);
        dueSpace("opened", disk, 3, 0, 7);
    }

    /** "2 R" */
    private static void theFewestAndTheMost() {
        CHECKS.due("space(2) of 8", new CarDisk(8).space(2), 6);
        CHECKS.due("space(2) of 16", new CarDisk(16).space(2), 14);
        CHECKS.due("space(2) of 64", new CarDisk(64).space(2), 62);
        CHECKS.due("space(0) of 64", new CarDisk(64).space(0), 62);
    }

    /** "-2 another what": too small. */
    private static void tooSmall() {
        dueNone(new CarDisk(8), -1, -2, Integer.MIN_VALUE);
    }

    /** "-2 another what": too large. */
    private static void tooLarge() {
        dueNone(new CarDisk(8), 4, 5, 256, Integer.MAX_VALUE);
    }

    private static void dueNone(CarDisk disk, int... others) {
        for (int what : others) {
            CHECKS.due("space(" + what + ")", disk.space(what), -2);
        }
    }

    /** "-3 the disk is CLOSED": behind -2. */
    private static void closed() {
        CarDisk disk = synced(2);
        disk.cut(0, 0);
        for (int what = 0; what <= 3; what++) {
            CHECKS.due("closed, space(" + what + ")", disk.space(what), -3);
        }
        dueNone(disk, -1, 4, Integer.MIN_VALUE, Integer.MAX_VALUE);
        disk.open();
        dueSpace("opened", disk, 4, 0, 3);
    }
}
