/** Promise 13: space. */
public final class SpaceTest {
    private static final Checks CHECKS = new Checks();

    public static void main(String[] args) {
        CarDisk disk = new CarDisk(8);
        dueSpace(disk, 6, 0, 6, 1);
        Checks.rows(disk, 1, 2, 0);
        dueSpace(disk, 6, 2, 6, 3);
        disk.sync();
        dueSpace(disk, 4, 0, 6, 3);
        Checks.rows(disk, 1, 6, 0);
        dueSpace(disk, 4, 6, 6, 9);
        disk.sync();
        dueSpace(disk, 0, 0, 6, 9);
        disk.cut(0, 0);
        for (int what = 0; what <= 3; what++) {
            CHECKS.due("closed, space(" + what + ")", disk.space(what), -3);
        }
        dueNone(disk);
        disk.poke(4 * 64, 1);
        CHECKS.due("open() with row 3 altered", disk.open(), 5);
        dueSpace(disk, 1, 0, 6, 9);
        dueNone(disk);
        CHECKS.finish();
    }

    private static void dueSpace(CarDisk disk, int free, int waiting, int ring, int next) {
        CHECKS.due("space(0)", disk.space(0), free);
        CHECKS.due("space(1)", disk.space(1), waiting);
        CHECKS.due("space(2)", disk.space(2), ring);
        CHECKS.due("space(3)", disk.space(3), next);
    }

    private static void dueNone(CarDisk disk) {
        int[] others = {-1, 4, Integer.MIN_VALUE, Integer.MAX_VALUE};
        for (int what : others) {
            CHECKS.due("space(" + what + ")", disk.space(what), -2);
        }
    }
}
