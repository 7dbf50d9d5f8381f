/** Promise 9: wrong. */
public final class WrongTest {
    private static final Checks CHECKS = new Checks();

    public static void main(String[] args) {
        noBadSector();
        badSectors();
        allSectorsAreBad();
        oneOctetIsEnough();
        goodThoughNoRow();
        noHead();
        aHeadOfNone();
        rowsThatAreNotThere();
        fewerThanTheRing();
        asManyAsTheRing();
        moreThanTheRing();
        anotherLapsRow();
        theGreaterHead();
        theGreaterHeadIsNotGood();
        sectorsThatHoldAnother();
        notThoseThatWait();
        rowsBehindTheHead();
        closed();
        tooSmall();
        tooLarge();
        CHECKS.finish();
    }

    /** "(-1 for none)" */
    private static void noBadSector() {
        CarDisk disk = new CarDisk(8);
        CHECKS.due("how many", disk.wrong(0), 0);
        CHECKS.due("the first", disk.wrong(1), -1);
        Checks.rows(disk, 1, 6, 0);
        disk.sync();
        disk.sync();
        CHECKS.due("how many of a full disk", disk.wrong(0), 0);
        CHECKS.due("the first of a full disk", disk.wrong(1), -1);
    }

    /** "0 how many sectors have an octet other than 0 and are not GOOD, 1 the first of these" */
    private static void badSectors() {
        CarDisk disk = new CarDisk(8);
        disk.poke(7 * 64 + 63, 1);
        CHECKS.due("one bad", disk.wrong(0), 1);
        CHECKS.due("the first", disk.wrong(1), 7);
        disk.poke(5 * 64, 1);
        disk.poke(0, 1);
        CHECKS.due("three bad", disk.wrong(0), 3);
        CHECKS.due("the first", disk.wrong(1), 0);
        disk.poke(0, 1);
        CHECKS.due("the first but for the head", disk.wrong(1), 5);
    }

    private static void allSectorsAreBad() {
        for (int sectors = 8; sectors <= 64; sectors++) {
            CarDisk disk = new CarDisk(sectors);
            for (int sector = sectors - 1; sector >= 0; sector--) {
                disk.poke(sector * 64 + sector % 64, 1);
                CHECKS.due("the first of " + sectors, disk.wrong(1), sector);
                CHECKS.due("how many of " + sectors, disk.wrong(0), sectors - sector);
            }
        }
    }

    /** "an octet other than 0": any of the 64. */
    private static void oneOctetIsEnough() {
        CarDisk disk = new CarDisk(8);
        for (int i = 0; i < 64; i++) {
            disk.poke(3 * 64 + i, 128);
            CHECKS.due("octet " + i, disk.wrong(1), 3);
            disk.poke(3 * 64 + i, 128);
        }
        CHECKS.due("none", disk.wrong(1), -1);
    }

    private static void goodThoughNoRow() {
        CarDisk disk = new CarDisk(8);
        Checks.lay(disk, 3, Checks.rowSector(1, 200, 5));
        CHECKS.due("another kind, another place", disk.wrong(0), 0);
        Checks.lay(disk, 4, Checks.rowSector(3, 0, 5));
        CHECKS.due("octet 4 is 0", disk.wrong(0), 1);
        CHECKS.due("the first", disk.wrong(1), 4);
    }

    /** "acknowledged by a GOOD HEAD": there is none. */
    private static void noHead() {
        CHECKS.due("a new disk", new CarDisk(8).wrong(2), 0);
        CarDisk disk = new CarDisk(8);
        Checks.rows(disk, 1, 3, 0);
        disk.cut(3, 0);
        disk.poke(2 * 64, 1);
        CHECKS.due("never acknowledged", disk.wrong(2), 0);
    }

    private static void aHeadOfNone() {
        CarDisk disk = new CarDisk(8);
        disk.sync();
        CHECKS.due("no row acknowledged", disk.wrong(2), 0);
    }

    private static void rowsThatAreNotThere() {
        CarDisk disk = new CarDisk(8);
        Checks.rows(disk, 1, 3, 0);
        disk.sync();
        CHECKS.due("all there", disk.wrong(2), 0);
        disk.poke(3 * 64 + 6, 1);
        CHECKS.due("row 2 altered", disk.wrong(2), 1);
        disk.poke(2 * 64 + 6, 1);
        disk.poke(4 * 64 + 6, 1);
        CHECKS.due("all altered", disk.wrong(2), 3);
        disk.poke(3 * 64 + 6, 1);
        CHECKS.due("row 2 as it was", disk.wrong(2), 2);
    }

    private static void dueMissingBehindHead(int head, int missing) {
        CarDisk disk = new CarDisk(8);
        Checks.lay(disk, 0, Checks.head(head));
        CHECKS.due("nothing is there of " + head, disk.wrong(2), missing);
    }

    /** "are among the R last ones of that" */
    private static void fewerThanTheRing() {
        dueMissingBehindHead(1, 1);
        dueMissingBehindHead(5, 5);
    }

    private static void asManyAsTheRing() {
        dueMissingBehindHead(6, 6);
        CarDisk disk = new CarDisk(64);
        Checks.lay(disk, 0, Checks.head(62));
        CHECKS.due("nothing is there of 62", disk.wrong(2), 62);
    }

    private static void moreThanTheRing() {
        dueMissingBehindHead(7, 6);
        dueMissingBehindHead(13, 6);
        dueMissingBehindHead(1000000, 6);
        CarDisk disk = new CarDisk(8);
        Checks.rows(disk, 1, 6, 0);
        disk.sync();
        Checks.rows(disk, 1, 1, 9);
        disk.sync();
        CHECKS.due("row 1 is not asked for", disk.wrong(2), 0);
        disk.poke(3 * 64 + 6, 1);
        CHECKS.due("row 2 is", disk.wrong(2), 1);
    }

    private static void anotherLapsRow() {
        CarDisk disk = new CarDisk(8);
        Checks.rows(disk, 1, 6, 0);
        disk.sync();
        Checks.rows(disk, 1, 2, 9);
        disk.cut(2, 0);
        CHECKS.due("rows 7 and 8 for rows 1 and 2", disk.wrong(2), 2);
    }

    /** "(the greater one)" */
    private static void theGreaterHead() {
        CarDisk disk = new CarDisk(8);
        Checks.lay(disk, 0, Checks.head(2));
        Checks.lay(disk, 1, Checks.head(4));
        CHECKS.due("of head 1", disk.wrong(2), 4);
        Checks.change(disk, 0, Checks.head(2), Checks.head(5));
        CHECKS.due("of head 0", disk.wrong(2), 5);
        Checks.change(disk, 1, Checks.head(4), Checks.head(5));
        CHECKS.due("of both", disk.wrong(2), 5);
    }

    private static void theGreaterHeadIsNotGood() {
        CarDisk disk = new CarDisk(8);
        Checks.lay(disk, 0, Checks.head(2));
        Checks.lay(disk, 1, Checks.head(4));
        disk.poke(64 + 3, 8);
        CHECKS.due("of head 0", disk.wrong(2), 2);
        disk.poke(4, 9);
        CHECKS.due("of none", disk.wrong(2), 0);
        disk.poke(64 + 3, 8);
        CHECKS.due("of head 1 again", disk.wrong(2), 4);
    }

    /** "not there now in GOOD sectors where they belong" */
    private static void sectorsThatHoldAnother() {
        dueMissing("the row", 2, Checks.rowSector(1, 1, 5), 0);
        dueMissing("another row", 2, Checks.rowSector(7, 1, 5), 1);
        dueMissing("the row elsewhere", 3, Checks.rowSector(1, 1, 5), 1);
        dueMissing("the row in a head", 1, Checks.rowSector(1, 1, 5), 1);
        dueMissing("no kind of a row", 2, Checks.rowSector(1, 5, 5), 1);
        dueMissing("octet 4 is 0", 2, Checks.rowSector(1, 0, 5), 1);
        dueMissing("the row with no octets", 2, Checks.rowTelling(128, 1, 1, 5), 0);
    }

    private static void dueMissing(String name, int sector, int[] octets, int missing) {
        CarDisk disk = new CarDisk(8);
        Checks.lay(disk, 0, Checks.head(1));
        Checks.lay(disk, sector, octets);
        CHECKS.due("wrong(2) with " + name, disk.wrong(2), missing);
    }

    private static void notThoseThatWait() {
        CarDisk disk = new CarDisk(8);
        disk.sync();
        Checks.rows(disk, 1, 3, 0);
        CHECKS.due("rows that wait", disk.wrong(2), 0);
    }

    /** Rows behind the head's number were not acknowledged, so none of them is missed. */
    private static void rowsBehindTheHead() {
        CarDisk disk = new CarDisk(8);
        Checks.row(disk, 1, 1);
        disk.sync();
        Checks.row(disk, 1, 2);
        disk.cut(1, 0);
        disk.poke(3 * 64 + 6, 1);
        CHECKS.due("row 2 altered", disk.wrong(2), 0);
        disk.poke(2 * 64 + 6, 1);
        CHECKS.due("row 1 altered, too", disk.wrong(2), 1);
    }

    /** The disk need not be open for it. */
    private static void closed() {
        CarDisk disk = new CarDisk(8);
        Checks.rows(disk, 1, 3, 0);
        disk.sync();
        disk.cut(0, 0);
        CHECKS.due("wrong(0)", disk.wrong(0), 0);
        CHECKS.due("wrong(1)", disk.wrong(1), -1);
        CHECKS.due("wrong(2)", disk.wrong(2), 0);
        disk.poke(3 * 64 + 6, 1);
        CHECKS.due("wrong(0)", disk.wrong(0), 1);
        CHECKS.due("wrong(1)", disk.wrong(1), 3);
        CHECKS.due("wrong(2)", disk.wrong(2), 1);
        CHECKS.due("wrong(3)", disk.wrong(3), -2);
        CHECKS.due("wrong(-1)", disk.wrong(-1), -2);
    }

    /** "-2 another what": too small. */
    private static void tooSmall() {
        dueNone(-1, -2, Integer.MIN_VALUE);
    }

    /** "-2 another what": too large. */
    private static void tooLarge() {
        dueNone(3, 4, 256, Integer.MAX_VALUE);
    }

    private static void dueNone(int... others) {
        CarDisk disk = new CarDisk(8);
        for (int what : others) {
            CHECKS.due("wrong(" + what + ")", disk.wrong(what), -2);
        }
    }
}
