/** Promise 5: cut. */
public final class CutTest {
    private static final Checks CHECKS = new Checks();

    public static void main(String[] args) {
        theFirstAreKeptAndOneIsTorn();
        theOtherOctetsStay();
        theHeadIsTheLast();
        theHeadIsTorn();
        limitsOfTear();
        limitsOfKeep();
        keepBelowNoneStillTears();
        nothingIsLeftOver();
        aSecondCutDoesNothing();
        CHECKS.finish();
    }

    private static int[] firstOf(int[] written, int[] before, int tear) {
        int[] result = before.clone();
        System.arraycopy(written, 0, result, 0, tear);
        return result;
    }

    private static void theFirstAreKeptAndOneIsTorn() {
        CarDisk disk = new CarDisk(8);
        Checks.rows(disk, 1, 3, 40);
        disk.cut(1, 7);
        CHECKS.dueSector("kept", disk, 2, Checks.rowSector(1, 1, 40));
        CHECKS.dueSector("torn", disk, 3, firstOf(Checks.rowSector(2, 1, 41), new int[64], 7));
        CHECKS.dueSector("lost", disk, 4, new int[64]);
        CHECKS.dueSector("no head", disk, 0, new int[64]);
        CHECKS.due("open()", disk.open(), 1);
        CHECKS.due("the next number", disk.space(3), 2);
    }

    private static void theOtherOctetsStay() {
        CarDisk disk = new CarDisk(8);
        Checks.row(disk, 1, 1, 2, 3, 4);
        Checks.rows(disk, 1, 5, 40);
        disk.sync();
        Checks.row(disk, 2, 9, 8, 7, 6);
        disk.cut(0, 8);
        int[] before = Checks.rowSector(1, 1, 1, 2, 3, 4);
        int[] written = Checks.rowSector(7, 2, 9, 8, 7, 6);
        CHECKS.dueSector("torn over row 1", disk, 2, firstOf(written, before, 8));
    }

    private static void theHeadIsTheLast() {
        CarDisk disk = new CarDisk(8);
        Checks.rows(disk, 1, 2, 40);
        disk.cut(3, 0);
        CHECKS.dueSector("head", disk, 0, Checks.head(2));
        CHECKS.due("acknowledged rows are there", disk.wrong(2), 0);
        CHECKS.due("open()", disk.open(), 2);
        disk.sync();
        Checks.row(disk, 1, 42);
        disk.cut(Integer.MAX_VALUE, 64);
        CHECKS.dueSector("the other head", disk, 1, Checks.head(3));
        CHECKS.dueSector("row 3", disk, 4, Checks.rowSector(3, 1, 42));
    }

    private static void theHeadIsTorn() {
        CarDisk disk = new CarDisk(8);
        Checks.row(disk, 1, 40);
        disk.cut(1, 5);
        CHECKS.dueSector("torn head", disk, 0, firstOf(Checks.head(1), new int[64], 5));
        CHECKS.due("a bad sector", disk.wrong(1), 0);
        CarDisk empty = new CarDisk(8);
        empty.cut(0, 64);
        CHECKS.dueSector("a head of none", empty, 0, Checks.head(0));
    }

    private static void limitsOfTear() {
        dueTorn(64, 64);
        dueTorn(65, 64);
        dueTorn(Integer.MAX_VALUE, 64);
        dueTorn(63, 63);
        dueTorn(1, 1);
        dueTorn(0, 0);
        dueTorn(-1, 0);
        dueTorn(Integer.MIN_VALUE, 0);
    }

    private static void dueTorn(int tear, int octets) {
        CarDisk disk = new CarDisk(8);
        disk.poke(2 * 64, 255);
        disk.poke(3 * 64, 255);
        Checks.rows(disk, 1, 2, 40);
        disk.cut(0, tear);
        int[] before = new int[64];
        before[0] = 255;
        int[] torn = firstOf(Checks.rowSector(1, 1, 40), before, octets);
        CHECKS.dueSector("cut(0, " + tear + ")", disk, 2, torn);
        CHECKS.dueSector("cut(0, " + tear + ")", disk, 3, before);
    }

    private static void limitsOfKeep() {
        dueKept(-1, 0);
        dueKept(Integer.MIN_VALUE, 0);
        dueKept(0, 0);
        dueKept(6, 6);
        dueKept(7, 6);
        dueKept(8, 6);
        dueKept(Integer.MAX_VALUE, 6);
    }

    private static void dueKept(int keep, int rows) {
        CarDisk disk = new CarDisk(8);
        Checks.rows(disk, 1, 6, 40);
        disk.cut(keep, 0);
        CHECKS.due("cut(" + keep + ", 0), head", disk.poke(4, 0), keep > 6 ? 9 : 0);
        CHECKS.due("cut(" + keep + ", 0), open()", disk.open(), rows);
    }

    private static void keepBelowNoneStillTears() {
        int[] below = {-1, Integer.MIN_VALUE};
        for (int keep : below) {
            CarDisk disk = new CarDisk(8);
            Checks.rows(disk, 1, 2, 40);
            disk.cut(keep, 7);
            int[] torn = firstOf(Checks.rowSector(1, 1, 40), new int[64], 7);
            CHECKS.dueSector("cut(" + keep + ", 7)", disk, 2, torn);
            CHECKS.dueSector("cut(" + keep + ", 7)", disk, 3, new int[64]);
        }
    }

    private static void nothingIsLeftOver() {
        CarDisk disk = new CarDisk(8);
        Checks.row(disk, 1, 1);
        disk.add((byte) 2);
        disk.cut(0, 0);
        disk.open();
        CHECKS.due("nothing waits", disk.space(1), 0);
        CHECKS.due("no octets", disk.end(1), -3);
        CHECKS.due("the number is free again", disk.space(3), 1);
    }

    private static void aSecondCutDoesNothing() {
        CarDisk disk = new CarDisk(8);
        disk.cut(0, 0);
        disk.cut(5, 64);
        CHECKS.dueSector("no head", disk, 0, new int[64]);
        CHECKS.due("still closed", disk.sync(), -3);
        CHECKS.due("open()", disk.open(), 0);
    }
}
