/** Terms: "(A NUMBER that is read and is not 1 .. 1000000 is none.)" */
public final class NumberTest {
    private static final Checks CHECKS = new Checks();

    public static void main(String[] args) {
        theLeastNumber();
        theGreatestNumber();
        noNumberBelow();
        noNumberAbove();
        theOtherHeadCounts();
        aRowThatIsNoneHidesNoOther();
        numbersThatAreNotReadGoOn();
        theLapBehindTheGreatest();
        CHECKS.finish();
    }

    private static void theLeastNumber() {
        dueOfHead(1, 2, 1);
        dueOfRow(1, 2, 1);
    }

    private static void theGreatestNumber() {
        dueOfHead(1000000, 1000001, 6);
        dueOfRow(1000000, 5, 1);
    }

    private static void noNumberBelow() {
        dueOfHead(0, 1, 0);
        dueOfHead(-1, 1, 0);
        dueOfHead(Integer.MIN_VALUE, 1, 0);
        for (int sector = 2; sector < 8; sector++) {
            dueOfRow(0, sector, 0);
            dueOfRow(-1, sector, 0);
            dueOfRow(-5, sector, 0);
            dueOfRow(Integer.MIN_VALUE, sector, 0);
        }
    }

    private static void noNumberAbove() {
        dueOfHead(1000001, 1, 0);
        dueOfHead(1 << 24, 1, 0);
        dueOfHead(Integer.MAX_VALUE, 1, 0);
        dueOfRow(1000001, 6, 0);
        dueOfRow(1000002, 7, 0);
        dueOfRow(Integer.MAX_VALUE, 2 + (Integer.MAX_VALUE - 1) % 6, 0);
    }

    private static void dueOfHead(int number, int next, int missing) {
        CarDisk disk = new CarDisk(8);
        Checks.lay(disk, 1, Checks.head(number));
        CHECKS.due("wrong(2) with a head of " + number, disk.wrong(2), missing);
        CHECKS.due("it is no bad sector", disk.wrong(0), 0);
        Checks.reopen(disk);
        CHECKS.due("the next number behind a head of " + number, disk.space(3), next);
        CHECKS.due("sync() behind it", disk.sync(), next - 1);
    }

    private static void dueOfRow(int number, int sector, int rows) {
        CarDisk disk = new CarDisk(8);
        Checks.lay(disk, sector, Checks.rowSector(number, 1, 5));
        String name = "row " + number + " in sector " + sector;
        CHECKS.due("open() with " + name, Checks.reopen(disk), rows);
        CHECKS.due("the next number with " + name, disk.space(3), rows == 0 ? 1 : number + 1);
        CHECKS.due("log(0) with " + name, disk.log(0), rows == 0 ? 0 : number);
    }

    private static void theOtherHeadCounts() {
        CarDisk disk = new CarDisk(8);
        Checks.lay(disk, 0, Checks.head(1000001));
        Checks.lay(disk, 1, Checks.head(2));
        CHECKS.due("wrong(2)", disk.wrong(2), 2);
        Checks.reopen(disk);
        CHECKS.due("the next number", disk.space(3), 3);
    }

    private static void aRowThatIsNoneHidesNoOther() {
        CarDisk disk = new CarDisk(8);
        Checks.row(disk, 1, 5);
        disk.sync();
        Checks.lay(disk, 6, Checks.rowSector(1000001, 1, 5));
        CHECKS.due("open()", Checks.reopen(disk), 1);
        CHECKS.due("the row", disk.log(0), 1);
        CHECKS.due("the next number", disk.space(3), 2);
    }

    /** What the object wrote itself is a number until it is read. */
    private static void numbersThatAreNotReadGoOn() {
        CarDisk disk = Checks.nextIs(8, 1000001);
        CHECKS.due("end", Checks.row(disk, 1, 1), 1000001);
        CHECKS.due("end", Checks.row(disk, 1, 2), 1000002);
        CHECKS.due("sync()", disk.sync(), 1000002);
        CHECKS.dueLog("two rows", disk, 1000001, 1000002);
        CHECKS.due("head 1 is the greater one that counts", disk.wrong(2), 6);
        CHECKS.due("open()", Checks.reopen(disk), 0);
        CHECKS.due("the next number is head 1's", disk.space(3), 1000001);
    }

    /** Row 1000001 takes the place of row 999995: the others stay, as far as they go on. */
    private static void theLapBehindTheGreatest() {
        CarDisk disk = Checks.nextIs(8, 999995);
        Checks.rows(disk, 1, 6, 0);
        CHECKS.due("sync()", disk.sync(), 1000000);
        Checks.row(disk, 1, 6);
        CHECKS.due("sync()", disk.sync(), 1000001);
        CHECKS.due("the last", disk.log(5), 1000001);
        CHECKS.due("open()", Checks.reopen(disk), 5);
        CHECKS.dueLog("what can be read", disk, 999996, 999997, 999998, 999999, 1000000);
    }
}
