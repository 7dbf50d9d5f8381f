/** Terms: "What is known afterwards: R ROWS at most, the last ones; a ROW that is written later .." */
public final class KnownRowsTest {
    private static final Checks CHECKS = new Checks();

    public static void main(String[] args) {
        theOldestIsTakenAway();
        oneInTheMiddleIsTakenAway();
        theLastIsTakenAway();
        noneIsTakenAway();
        awayGoesWhatTheRingHas();
        aRowThatWaitsTakesNoneAway();
        aWholeLapTakesAllAway();
        CHECKS.finish();
    }

    /** Rows 1 .. so many are there, and a head tells of a later one. */
    private static CarDisk opened(int rows, int head) {
        CarDisk disk = new CarDisk(8);
        Checks.rows(disk, 1, rows, 10);
        disk.cut(rows, 0);
        Checks.lay(disk, 1, Checks.head(head));
        CHECKS.due("open()", disk.open(), rows);
        return disk;
    }

    private static void oneMore(CarDisk disk, int number) {
        CHECKS.due("end(2)", Checks.row(disk, 2, 99), number);
        CHECKS.due("sync()", disk.sync(), number);
    }

    private static void theOldestIsTakenAway() {
        CarDisk disk = opened(6, 6);
        oneMore(disk, 7);
        CHECKS.dueLog("row 7 for row 1", disk, 2, 3, 4, 5, 6, 7);
    }

    /** The head is ahead of the rows, so that the next row does not fall on the oldest one. */
    private static void oneInTheMiddleIsTakenAway() {
        CarDisk disk = opened(6, 9);
        oneMore(disk, 10);
        CHECKS.dueLog("row 10 for row 4", disk, 1, 2, 3, 5, 6, 10);
        CHECKS.due("no room", disk.space(0), 0);
        CHECKS.due("row 5 is the fourth", Checks.at(disk, 1, 3, 0), "14");
        CHECKS.due("row 6 is the fifth", Checks.at(disk, 1, 4, 0), "15");
        CHECKS.due("no sixth of that kind", Checks.at(disk, 1, 5, 0), "0");
        int due = Checks.sum(1, 10, 1, 11, 1, 12, 1, 14, 1, 15, 2, 99);
        CHECKS.due("snapshot()", disk.snapshot(), due);
    }

    private static void theLastIsTakenAway() {
        CarDisk disk = opened(6, 11);
        oneMore(disk, 12);
        CHECKS.dueLog("row 12 for row 6", disk, 1, 2, 3, 4, 5, 12);
    }

    private static void noneIsTakenAway() {
        CarDisk disk = opened(2, 9);
        oneMore(disk, 10);
        CHECKS.dueLog("row 10 where none was", disk, 1, 2, 10);
        CHECKS.due("room", disk.space(0), 3);
    }

    private static void awayGoesWhatTheRingHas() {
        CarDisk disk = opened(2, 9);
        Checks.rows(disk, 2, 6, 0);
        CHECKS.due("sync()", disk.sync(), 15);
        CHECKS.dueLog("rows 10 to 15", disk, 10, 11, 12, 13, 14, 15);
    }

    private static void aRowThatWaitsTakesNoneAway() {
        CarDisk disk = opened(6, 6);
        Checks.rows(disk, 2, 6, 0);
        CHECKS.dueLog("six rows wait", disk, 1, 2, 3, 4, 5, 6);
        CHECKS.due("octet of row 1", Checks.at(disk, 1, 0, 0), "10");
    }

    private static void aWholeLapTakesAllAway() {
        CarDisk disk = opened(6, 6);
        Checks.rows(disk, 2, 6, 0);
        disk.sync();
        CHECKS.dueLog("a lap later", disk, 7, 8, 9, 10, 11, 12);
        CHECKS.due("none of kind 1", Checks.at(disk, 1, 0, 0), "0");
        CHECKS.due("the first of kind 2", Checks.at(disk, 2, 0, 0), "0");
        CHECKS.due("the last of kind 2", Checks.at(disk, 2, 5, 0), "5");
    }
}
