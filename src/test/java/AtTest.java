/** Promise 7: at. */
public final class AtTest {
    private static final Checks CHECKS = new Checks();

    public static void main(String[] args) {
        CarDisk disk = new CarDisk(8);
        Checks.row(disk, 1, 10, 11, 12);
        Checks.row(disk, 2, 20);
        Checks.row(disk, 1, -30, 31);
        CHECKS.due("a row that waits", Checks.at(disk, 1, 0, 0), "0");
        disk.sync();
        Checks.row(disk, 2, 40);
        rowsOfAKind(disk);
        noSuchOctet(disk);
        noSuchRow(disk);
        disk.cut(9, 0);
        CHECKS.due("closed", Checks.at(disk, 1, 0, 0), "0");
        CHECKS.due("closed, no such octet", Checks.at(disk, 1, 0, 9), "0");
        disk.open();
        CHECKS.due("opened", Checks.at(disk, 2, 1, 0), "40");
        CHECKS.finish();
    }

    private static void rowsOfAKind(CarDisk disk) {
        CHECKS.due("at(1, 0, 0)", Checks.at(disk, 1, 0, 0), "10");
        CHECKS.due("at(1, 0, 2)", Checks.at(disk, 1, 0, 2), "12");
        CHECKS.due("at(1, 1, 0)", Checks.at(disk, 1, 1, 0), "-30");
        CHECKS.due("at(1, 1, 1)", Checks.at(disk, 1, 1, 1), "31");
        CHECKS.due("at(2, 0, 0)", Checks.at(disk, 2, 0, 0), "20");
    }

    private static void noSuchOctet(CarDisk disk) {
        int[] places = {-1, 3, 48, 64, Integer.MIN_VALUE, Integer.MAX_VALUE};
        for (int i : places) {
            CHECKS.due("at(1, 0, " + i + ")", Checks.at(disk, 1, 0, i), "throws");
        }
        CHECKS.due("at(1, 1, 2)", Checks.at(disk, 1, 1, 2), "throws");
    }

    private static void noSuchRow(CarDisk disk) {
        int[] rows = {-1, 2, Integer.MIN_VALUE, Integer.MAX_VALUE};
        for (int row : rows) {
            CHECKS.due("at(1, " + row + ", 0)", Checks.at(disk, 1, row, 0), "0");
            CHECKS.due("at(1, " + row + ", -1)", Checks.at(disk, 1, row, -1), "0");
        }
        int[] kinds = {0, 3, 4, 5, 9, -1, 257, Integer.MIN_VALUE, Integer.MAX_VALUE};
        for (int kind : kinds) {
            CHECKS.due("at(" + kind + ", 0, 0)", Checks.at(disk, kind, 0, 0), "0");
            CHECKS.due("at(" + kind + ", 0, 50)", Checks.at(disk, kind, 0, 50), "0");
        }
        CHECKS.due("a row that waits", Checks.at(disk, 2, 1, 0), "0");
    }
}
