/** Promise 11: log. */
public final class LogTest {
    private static final Checks CHECKS = new Checks();

    public static void main(String[] args) {
        CarDisk disk = new CarDisk(8);
        CHECKS.due("no rows", disk.log(0), 0);
        Checks.rows(disk, 1, 2, 0);
        CHECKS.due("rows that wait", disk.log(0), 0);
        disk.sync();
        CHECKS.due("log(0)", disk.log(0), 1);
        CHECKS.due("log(1)", disk.log(1), 2);
        int[] none = {-1, 2, 5, 6, 62, Integer.MIN_VALUE, Integer.MAX_VALUE};
        for (int n : none) {
            CHECKS.due("log(" + n + ")", disk.log(n), 0);
        }
        Checks.rows(disk, 1, 6, 0);
        disk.sync();
        CHECKS.due("the oldest", disk.log(0), 3);
        CHECKS.due("the last", disk.log(5), 8);
        CHECKS.due("behind the last", disk.log(6), 0);
        disk.cut(0, 0);
        CHECKS.due("closed", disk.log(0), 0);
        disk.open();
        CHECKS.due("opened", disk.log(0), 3);
        numbersThatAreOnlyReadAsNone();
        CHECKS.finish();
    }

    private static void numbersThatAreOnlyReadAsNone() {
        CarDisk disk = new CarDisk(8);
        Checks.lay(disk, 0, Checks.head(1000000));
        Checks.reopen(disk);
        CHECKS.due("end", Checks.row(disk, 1, 1), 1000001);
        CHECKS.due("sync()", disk.sync(), 1000001);
        CHECKS.due("the number", disk.log(0), 1000001);
    }
}
