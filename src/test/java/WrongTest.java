/** Promise 9: wrong. */
public final class WrongTest {
    private static final Checks CHECKS = new Checks();

    public static void main(String[] args) {
        badSectors();
        rowsThatAreNotThere();
        onlyTheLastOfTheRing();
        theGreaterHead();
        noHead();
        sectorsThatHoldAnother();
        otherQuestions();
        CHECKS.finish();
    }

    private static void badSectors() {
        CarDisk disk = new CarDisk(8);
        disk.poke(7 * 64 + 63, 1);
        CHECKS.due("one bad", disk.wrong(0), 1);
        CHECKS.due("the first", disk.wrong(1), 7);
        disk.poke(5 * 64, 1);
        disk.poke(0, 1);
        CHECKS.due("three bad", disk.wrong(0), 3);
        CHECKS.due("the first", disk.wrong(1), 0);
        disk.poke(0, 1);
        CHECKS.due("the first but for the head", disk.wrong(1), 5);
        Checks.lay(disk, 3, Checks.rowSector(1, 200, 5));
        CHECKS.due("good, though no row", disk.wrong(0), 2);
        Checks.lay(disk, 4, Checks.rowSector(3, 0, 5));
        CHECKS.due("octet 4 is 0", disk.wrong(0), 3);
        CHECKS.due("the first", disk.wrong(1), 4);
    }

    private static void rowsThatAreNotThere() {
        CarDisk disk = new CarDisk(8);
        Checks.rows(disk, 1, 3, 0);
        disk.sync();
        CHECKS.due("all there", disk.wrong(2), 0);
        disk.poke(3 * 64 + 6, 1);
        CHECKS.due("row 2 altered", disk.wrong(2), 1);
        disk.poke(2 * 64 + 6, 1);
        disk.poke(4 * 64 + 6, 1);
        CHECKS.due("all altered", disk.wrong(2), 3);
        disk.cut(0, 0);
        CHECKS.due("closed", disk.wrong(2), 3);
        disk.poke(3 * 64 + 6, 1);
        CHECKS.due("row 2 as it was", disk.wrong(2), 2);
    }

    private static void onlyTheLastOfTheRing() {
        CarDisk disk = new CarDisk(8);
        Checks.rows(disk, 1, 6, 0);
        disk.sync();
        Checks.rows(disk, 1, 1, 9);
        disk.sync();
        CHECKS.due("row 1 is not asked for", disk.wrong(2), 0);
        Checks.rows(disk, 1, 2, 9);
        disk.cut(1, 0);
        CHECKS.due("row 8 in place of row 2", disk.wrong(2), 1);
    }

    private static void theGreaterHead() {
        CarDisk disk = new CarDisk(8);
        Checks.lay(disk, 0, Checks.head(2));
        Checks.lay(disk, 1, Checks.head(4));
        CHECKS.due("of head 1", disk.wrong(2), 4);
        disk.poke(64 + 3, 8);
        CHECKS.due("of head 0", disk.wrong(2), 2);
        disk.poke(4, 9);
        CHECKS.due("of none", disk.wrong(2), 0);
        disk.poke(4, 9);
        disk.poke(64 + 3, 8);
        CHECKS.due("of head 1 again", disk.wrong(2), 4);
        Checks.change(disk, 1, Checks.head(4), Checks.head(1000000));
        CHECKS.due("of the greatest number", disk.wrong(2), 6);
        Checks.change(disk, 1, Checks.head(1000000), Checks.head(1000001));
        CHECKS.due("of a number that is none", disk.wrong(2), 2);
    }

    private static void noHead() {
        CarDisk disk = new CarDisk(8);
        Checks.rows(disk, 1, 3, 0);
        disk.cut(3, 0);
        disk.poke(2 * 64, 1);
        CHECKS.due("never acknowledged", disk.wrong(2), 0);
    }

    private static void sectorsThatHoldAnother() {
        dueMissing("the row", 2, Checks.rowSector(1, 1, 5), 0);
        dueMissing("another row", 2, Checks.rowSector(7, 1, 5), 1);
        dueMissing("the row elsewhere", 3, Checks.rowSector(1, 1, 5), 1);
        dueMissing("no kind of a row", 2, Checks.rowSector(1, 5, 5), 1);
    }

    private static void dueMissing(String name, int sector, int[] octets, int missing) {
        CarDisk disk = new CarDisk(8);
        Checks.lay(disk, 0, Checks.head(1));
        Checks.lay(disk, sector, octets);
        CHECKS.due("wrong(2) with " + name, disk.wrong(2), missing);
    }

    private static void otherQuestions() {
        CarDisk disk = new CarDisk(8);
        int[] others = {-1, 3, Integer.MIN_VALUE, Integer.MAX_VALUE};
        for (int what : others) {
            CHECKS.due("wrong(" + what + ")", disk.wrong(what), -2);
        }
        CHECKS.due("no bad sector", disk.wrong(1), -1);
        disk.cut(0, 0);
        CHECKS.due("wrong(3) when closed", disk.wrong(3), -2);
        CHECKS.due("wrong(0) when closed", disk.wrong(0), 0);
    }
}
