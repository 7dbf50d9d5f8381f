/** Promise 7: at. */
public final class AtTest {
    private static final Checks CHECKS = new Checks();

    public static void main(String[] args) {
        rowsOfAKind();
        theFirstAndTheLastOctet();
        noSuchOctetBelow();
        noSuchOctetAbove();
        aRowWithoutOctets();
        noSuchRowBelow();
        noSuchRowAbove();
        noSuchKind();
        aRowThatWaits();
        closed();
        theOldestFirstWhenTheRingWentRound();
        asManyRowsAsThereCanBe();
        CHECKS.finish();
    }

    private static CarDisk some() {
        CarDisk disk = new CarDisk(8);
        Checks.row(disk, 1, 10, 11, 12);
        Checks.row(disk, 2, 20);
        Checks.row(disk, 1, -30, 31);
        disk.sync();
        return disk;
    }

    /** "Octet i of the row-th ROW (from 0, the oldest first) of a KIND" */
    private static void rowsOfAKind() {
        CarDisk disk = some();
        CHECKS.due("at(1, 0, 1)", Checks.at(disk, 1, 0, 1), "11");
        CHECKS.due("at(1, 1, 0)", Checks.at(disk, 1, 1, 0), "-30");
        CHECKS.due("at(1, 1, 1)", Checks.at(disk, 1, 1, 1), "31");
        CHECKS.due("at(2, 0, 0)", Checks.at(disk, 2, 0, 0), "20");
    }

    private static void theFirstAndTheLastOctet() {
        CarDisk disk = some();
        CHECKS.due("at(1, 0, 0)", Checks.at(disk, 1, 0, 0), "10");
        CHECKS.due("at(1, 0, 2)", Checks.at(disk, 1, 0, 2), "12");
    }

    /** "ArrayIndexOutOfBoundsException when there is no such octet of it": too small. */
    private static void noSuchOctetBelow() {
        int[] places = {-1, -6, Integer.MIN_VALUE};
        dueNoOctet(places);
    }

    /** "ArrayIndexOutOfBoundsException when there is no such octet of it": too large. */
    private static void noSuchOctetAbove() {
        int[] places = {3, 4, 47, 48, 63, 64, Integer.MAX_VALUE};
        dueNoOctet(places);
        CarDisk disk = some();
        CHECKS.due("at(1, 1, 2)", Checks.at(disk, 1, 1, 2), "throws");
        CHECKS.due("at(2, 0, 1)", Checks.at(disk, 2, 0, 1), "throws");
    }

    private static void dueNoOctet(int[] places) {
        CarDisk disk = some();
        for (int i : places) {
            CHECKS.due("at(1, 0, " + i + ")", Checks.at(disk, 1, 0, i), "throws");
        }
        CHECKS.due("nothing has changed", Checks.at(disk, 1, 0, 0), "10");
    }

    /** Only an altered one has none: it is a row, but there is no octet of it. */
    private static void aRowWithoutOctets() {
        int[] told = {0, 128};
        for (int length : told) {
            CarDisk disk = new CarDisk(8);
            Checks.lay(disk, 2, Checks.rowTelling(length, 1, 1, 7));
            Checks.reopen(disk);
            CHECKS.due("octet 0", Checks.at(disk, 1, 0, 0), "throws");
            CHECKS.due("no other row", Checks.at(disk, 1, 1, 0), "0");
        }
    }

    /** "0 when there is no such ROW": too small. */
    private static void noSuchRowBelow() {
        int[] rows = {-1, -2, Integer.MIN_VALUE};
        dueNoRow(rows);
    }

    /** "0 when there is no such ROW": too large. */
    private static void noSuchRowAbove() {
        int[] rows = {2, 3, 6, 62, Integer.MAX_VALUE};
        dueNoRow(rows);
    }

    private static void dueNoRow(int[] rows) {
        CarDisk disk = some();
        for (int row : rows) {
            CHECKS.due("at(1, " + row + ", 0)", Checks.at(disk, 1, row, 0), "0");
            CHECKS.due("at(1, " + row + ", -1)", Checks.at(disk, 1, row, -1), "0");
            CHECKS.due("at(1, " + row + ", 48)", Checks.at(disk, 1, row, 48), "0");
        }
    }

    private static void noSuchKind() {
        CarDisk disk = some();
        int[] kinds = {0, 3, 4, 5, 9, -1, 257, Integer.MIN_VALUE, Integer.MAX_VALUE};
        for (int kind : kinds) {
            CHECKS.due("at(" + kind + ", 0, 0)", Checks.at(disk, kind, 0, 0), "0");
            CHECKS.due("at(" + kind + ", 0, 50)", Checks.at(disk, kind, 0, 50), "0");
        }
    }

    /** "of those that were written (not those that WAIT)" */
    private static void aRowThatWaits() {
        CarDisk disk = some();
        Checks.row(disk, 2, 40);
        CHECKS.due("it waits", Checks.at(disk, 2, 1, 0), "0");
        CHECKS.due("it waits, no such octet", Checks.at(disk, 2, 1, 1), "0");
        disk.sync();
        CHECKS.due("it is written", Checks.at(disk, 2, 1, 0), "40");
        CHECKS.due("it is written, no such octet", Checks.at(disk, 2, 1, 1), "throws");
    }

    /** "or the disk is CLOSED" */
    private static void closed() {
        CarDisk disk = some();
        disk.cut(0, 0);
        CHECKS.due("closed", Checks.at(disk, 1, 0, 0), "0");
        CHECKS.due("closed, no such octet", Checks.at(disk, 1, 0, 9), "0");
        CHECKS.due("closed, no such octet", Checks.at(disk, 1, 0, -1), "0");
        disk.open();
        CHECKS.due("opened", Checks.at(disk, 1, 0, 0), "10");
    }

    private static void theOldestFirstWhenTheRingWentRound() {
        CarDisk disk = some();
        Checks.rows(disk, 1, 3, 50);
        disk.sync();
        Checks.rows(disk, 2, 1, 60);
        disk.sync();
        CHECKS.due("row 1 is gone", Checks.at(disk, 1, 0, 0), "-30");
        CHECKS.due("the last of kind 1", Checks.at(disk, 1, 3, 0), "52");
        CHECKS.due("the last of kind 2", Checks.at(disk, 2, 1, 0), "60");
        CHECKS.due("no more of kind 1", Checks.at(disk, 1, 4, 0), "0");
    }

    private static void asManyRowsAsThereCanBe() {
        CarDisk disk = new CarDisk(64);
        Checks.rows(disk, 4, 62, 1);
        disk.sync();
        CHECKS.due("the first", Checks.at(disk, 4, 0, 0), "1");
        CHECKS.due("the last", Checks.at(disk, 4, 61, 0), "62");
        CHECKS.due("behind the last", Checks.at(disk, 4, 62, 0), "0");
    }
}
