/** Promise 1: a new object. */
public final class NewObjectTest {
    private static final Checks CHECKS = new Checks();

    public static void main(String[] args) {
        theFewestSectors();
        theMostSectors();
        allBetweenThese();
        tooFew();
        tooMany();
        itIsOpen();
        itIsWithoutRows();
        objectsAreApart();
        CHECKS.finish();
    }

    /** "So many SECTORS (8 .. 64": 8. */
    private static void theFewestSectors() {
        dueSectors(8, 8);
    }

    /** "So many SECTORS (8 .. 64": 64. */
    private static void theMostSectors() {
        dueSectors(64, 64);
    }

    private static void allBetweenThese() {
        for (int sectors = 9; sectors < 64; sectors++) {
            dueSectors(sectors, sectors);
        }
    }

    /** "16 for any other number": too small. */
    private static void tooFew() {
        int[] others = {7, 1, 0, -1, -8, -64, Integer.MIN_VALUE};
        for (int asked : others) {
            dueSectors(asked, 16);
        }
    }

    /** "16 for any other number": too large. */
    private static void tooMany() {
        int[] others = {65, 128, 1000, Integer.MAX_VALUE};
        for (int asked : others) {
            dueSectors(asked, 16);
        }
    }

    private static void dueSectors(int asked, int made) {
        CarDisk disk = new CarDisk(asked);
        String name = "new CarDisk(" + asked + ")";
        CHECKS.due(name + " space(2)", disk.space(2), made - 2);
        CHECKS.due(name + " first octet", disk.poke(0, 0), 0);
        CHECKS.due(name + " last octet", disk.poke(made * 64 - 1, 0), 0);
        CHECKS.due(name + " behind the last", disk.poke(made * 64, 0), -2);
        Checks.rows(disk, 1, made - 2, 0);
        CHECKS.due(name + " so many rows wait", disk.space(1), made - 2);
        CHECKS.due(name + " and no more", Checks.row(disk, 1, 0), -4);
    }

    /** "OPEN" */
    private static void itIsOpen() {
        CarDisk disk = new CarDisk(8);
        CHECKS.due("open()", disk.open(), -3);
        CHECKS.due("space(3)", disk.space(3), 1);
        CHECKS.due("a row", Checks.row(disk, 1, 1), 1);
        CHECKS.due("sync()", disk.sync(), 1);
    }

    /** "without ROWS" */
    private static void itIsWithoutRows() {
        CarDisk disk = new CarDisk(8);
        CHECKS.due("space(0)", disk.space(0), 6);
        CHECKS.due("space(1)", disk.space(1), 0);
        CHECKS.due("log(0)", disk.log(0), 0);
        CHECKS.due("snapshot()", disk.snapshot(), 1);
        CHECKS.due("flash(0, 0)", disk.flash(0, 0), -1);
        CHECKS.due("at(1, 0, 0)", Checks.at(disk, 1, 0, 0), "0");
        CHECKS.due("wrong(0)", disk.wrong(0), 0);
        CHECKS.due("wrong(1)", disk.wrong(1), -1);
        CHECKS.due("wrong(2)", disk.wrong(2), 0);
        CHECKS.due("no octets", disk.end(1), -3);
        CHECKS.due("reopened", Checks.reopen(disk), 0);
    }

    private static void objectsAreApart() {
        CarDisk first = new CarDisk(8);
        CarDisk second = new CarDisk(8);
        Checks.row(first, 1, 1);
        first.sync();
        first.cut(0, 0);
        CHECKS.due("the other's rows", second.log(0), 0);
        CHECKS.due("the other's octets", second.poke(2 * 64 + 4, 0), 0);
        CHECKS.due("the other is open", second.sync(), 0);
    }
}
