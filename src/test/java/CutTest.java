/** Promise 5: cut, and what a CUT writes. */
public final class CutTest {
    private static final Checks CHECKS = new Checks();
    private static final int[] BLANK = new int[64];

    public static void main(String[] args) {
        theFirstAreKeptAndOneIsTorn();
        theOtherOctetsStay();
        keepNone();
        keepAllRows();
        keepTheHeadToo();
        keepMoreThanThereAre();
        keepBelow0();
        keepOfAFullRing();
        tearNothing();
        tearOneOctet();
        tearAllButOne();
        tearTheWholeSector();
        tearMoreThanASector();
        tearBelow0();
        tearWhatIsTheSame();
        everyTearOverAnOlderRow();
        theHeadIsTorn();
        theOtherHeadIsTorn();
        nothingWaits();
        theDiskIsClosed();
        nothingWaitsAfterwards();
        octetsOfTheNextRowAreLost();
        nothingWhenClosed();
        CHECKS.finish();
    }

    private static CarDisk withRows(int howMany) {
        CarDisk disk = new CarDisk(8);
        Checks.rows(disk, 1, howMany, 40);
        return disk;
    }

    private static int[] rowOf(int number) {
        return Checks.rowSector(number, 1, 39 + number);
    }

    /** "the first KEEP are written; of the next one the first TEAR octets" */
    private static void theFirstAreKeptAndOneIsTorn() {
        CarDisk disk = withRows(3);
        disk.cut(1, 7);
        CHECKS.dueSector("kept", disk, 2, rowOf(1));
        CHECKS.dueSector("torn", disk, 3, Checks.torn(rowOf(2), BLANK, 7));
        CHECKS.dueSector("lost", disk, 4, BLANK);
        CHECKS.dueSector("no head", disk, 0, BLANK);
        CHECKS.due("open()", disk.open(), 1);
        CHECKS.due("the next number", disk.space(3), 2);
    }

    /** "the others of its sector stay" */
    private static void theOtherOctetsStay() {
        CarDisk disk = new CarDisk(8);
        Checks.row(disk, 1, 1, 2, 3, 4);
        Checks.rows(disk, 1, 5, 40);
        disk.sync();
        Checks.row(disk, 2, 9, 8, 7, 6);
        disk.cut(0, 8);
        int[] before = Checks.rowSector(1, 1, 1, 2, 3, 4);
        int[] written = Checks.rowSector(7, 2, 9, 8, 7, 6);
        CHECKS.dueSector("torn over row 1", disk, 2, Checks.torn(written, before, 8));
    }

    private static void dueKept(CarDisk disk, int keep, int rows, boolean head) {
        String name = "cut(" + keep + ", 0)";
        disk.cut(keep, 0);
        CHECKS.due(name + ", octet 4 of the head", Checks.octet(disk, 0, 4), head ? 9 : 0);
        CHECKS.due(name + ", acknowledged rows", disk.wrong(2), 0);
        CHECKS.due(name + ", open()", disk.open(), rows);
        CHECKS.due(name + ", the next number", disk.space(3), rows + 1);
    }

    private static void keepNone() {
        dueKept(withRows(2), 0, 0, false);
    }

    private static void keepAllRows() {
        dueKept(withRows(2), 2, 2, false);
    }

    /** "and the HEAD that a SYNC would write behind them" */
    private static void keepTheHeadToo() {
        dueKept(withRows(2), 3, 2, true);
        CarDisk disk = withRows(2);
        disk.cut(3, 0);
        CHECKS.dueSector("the head", disk, 0, Checks.head(2));
        CHECKS.dueSector("not the other one", disk, 1, BLANK);
    }

    /** There is no next one to tear. */
    private static void keepMoreThanThereAre() {
        int[] more = {4, 5, 64, Integer.MAX_VALUE};
        for (int keep : more) {
            dueKept(withRows(2), keep, 2, true);
            CarDisk disk = withRows(2);
            disk.cut(keep, 64);
            CHECKS.dueSector("cut(" + keep + ", 64)", disk, 0, Checks.head(2));
            CHECKS.dueSector("cut(" + keep + ", 64)", disk, 1, BLANK);
            CHECKS.dueSector("cut(" + keep + ", 64)", disk, 4, BLANK);
        }
    }

    /** "KEEP below 0 counts as 0": the first one is still torn. */
    private static void keepBelow0() {
        int[] below = {-1, -2, -64, Integer.MIN_VALUE};
        for (int keep : below) {
            dueKept(withRows(2), keep, 0, false);
            CarDisk disk = withRows(2);
            disk.cut(keep, 7);
            CHECKS.dueSector("cut(" + keep + ", 7)", disk, 2, Checks.torn(rowOf(1), BLANK, 7));
            CHECKS.dueSector("cut(" + keep + ", 7)", disk, 3, BLANK);
        }
    }

    /** R rows and their head are R + 1 writes. */
    private static void keepOfAFullRing() {
        for (int keep = 0; keep <= 8; keep++) {
            dueKept(withRows(6), keep, Math.min(keep, 6), keep > 6);
        }
    }

    /** Row 1 waits, over a sector whose octets differ from it in each place. */
    private static void dueTorn(int tear, int octets) {
        int[] before = new int[64];
        CarDisk disk = new CarDisk(8);
        for (int i = 0; i < 64; i++) {
            before[i] = rowOf(1)[i] ^ 85;
            disk.poke(2 * 64 + i, before[i]);
        }
        Checks.rows(disk, 1, 2, 40);
        disk.cut(0, tear);
        String name = "cut(0, " + tear + ")";
        CHECKS.dueSector(name, disk, 2, Checks.torn(rowOf(1), before, octets));
        CHECKS.dueSector(name, disk, 3, BLANK);
    }

    /** "TEAR as 0 to 64 at most": 0. */
    private static void tearNothing() {
        dueTorn(0, 0);
    }

    private static void tearOneOctet() {
        dueTorn(1, 1);
    }

    private static void tearAllButOne() {
        dueTorn(63, 63);
    }

    /** "TEAR as 0 to 64 at most": 64, which is a whole write. */
    private static void tearTheWholeSector() {
        dueTorn(64, 64);
        CarDisk disk = withRows(2);
        disk.cut(1, 64);
        CHECKS.due("open()", disk.open(), 2);
    }

    /** "TEAR as 0 to 64 at most": the next sector is untouched. */
    private static void tearMoreThanASector() {
        int[] more = {65, 128, 1000, Integer.MAX_VALUE};
        for (int tear : more) {
            dueTorn(tear, 64);
        }
    }

    /** "TEAR as 0 to 64 at most": too small. */
    private static void tearBelow0() {
        int[] below = {-1, -64, Integer.MIN_VALUE};
        for (int tear : below) {
            dueTorn(tear, 0);
        }
    }

    /** Row 7 has the same octets 0 to 2 as row 1: a tear of 3 leaves row 1 as it was. */
    private static void tearWhatIsTheSame() {
        CarDisk disk = withRows(6);
        disk.sync();
        Checks.row(disk, 1, 99);
        disk.cut(0, 3);
        CHECKS.due("wrong(0)", disk.wrong(0), 0);
        CHECKS.due("open()", disk.open(), 6);
        CHECKS.dueLog("all rows", disk, 1, 2, 3, 4, 5, 6);
    }

    private static void everyTearOverAnOlderRow() {
        for (int tear = 0; tear <= 64; tear++) {
            CarDisk disk = withRows(6);
            disk.sync();
            Checks.row(disk, 1, 99);
            disk.cut(0, tear);
            boolean bad = tear > 3 && tear < 64;
            String name = "row 7 torn at " + tear;
            CHECKS.due(name + ", wrong(0)", disk.wrong(0), bad ? 1 : 0);
            CHECKS.due(name + ", wrong(2)", disk.wrong(2), tear > 3 ? 1 : 0);
            CHECKS.due(name + ", open()", disk.open(), bad ? 5 : 6);
            CHECKS.due(name + ", the oldest", disk.log(0), tear > 3 ? 2 : 1);
            CHECKS.due(name + ", the next number", disk.space(3), tear == 64 ? 8 : 7);
        }
    }

    private static void theHeadIsTorn() {
        CarDisk disk = withRows(1);
        disk.cut(1, 5);
        CHECKS.dueSector("torn head", disk, 0, Checks.torn(Checks.head(1), BLANK, 5));
        CHECKS.due("a bad sector", disk.wrong(1), 0);
        CHECKS.due("open()", disk.open(), 1);
        CarDisk whole = withRows(1);
        whole.cut(1, 64);
        CHECKS.dueSector("a whole head", whole, 0, Checks.head(1));
    }

    /** Head 0 is the older one then, and still tells what was acknowledged. */
    private static void theOtherHeadIsTorn() {
        CarDisk disk = withRows(1);
        disk.sync();
        Checks.row(disk, 1, 41);
        disk.cut(1, 20);
        CHECKS.dueSector("head 0", disk, 0, Checks.head(1));
        CHECKS.dueSector("head 1", disk, 1, Checks.torn(Checks.head(2), BLANK, 20));
        CHECKS.due("wrong(1)", disk.wrong(1), 1);
        CHECKS.due("wrong(2)", disk.wrong(2), 0);
        disk.poke(2 * 64 + 6, 1);
        disk.poke(3 * 64 + 6, 1);
        CHECKS.due("row 1 alone was acknowledged", disk.wrong(2), 1);
        CHECKS.due("open()", disk.open(), 0);
        CHECKS.due("the next number", disk.space(3), 2);
    }

    /** The head is the first write then. */
    private static void nothingWaits() {
        CarDisk torn = new CarDisk(8);
        torn.cut(0, 5);
        CHECKS.dueSector("a torn head of none", torn, 0, Checks.torn(Checks.head(0), BLANK, 5));
        CarDisk whole = new CarDisk(8);
        whole.cut(1, 0);
        CHECKS.dueSector("a head of none", whole, 0, Checks.head(0));
        CarDisk untouched = new CarDisk(8);
        untouched.cut(0, 0);
        CHECKS.dueSector("no head", untouched, 0, BLANK);
        CarDisk later = withRows(2);
        later.sync();
        later.cut(1, 0);
        CHECKS.dueSector("the other head", later, 1, Checks.head(2));
    }

    /** "Then the disk is CLOSED" */
    private static void theDiskIsClosed() {
        CarDisk disk = withRows(2);
        disk.cut(9, 64);
        CHECKS.due("sync()", disk.sync(), -3);
        CHECKS.due("end(1)", disk.end(1), -3);
        CHECKS.due("snapshot()", disk.snapshot(), -3);
        CHECKS.due("space(0)", disk.space(0), -3);
        CHECKS.due("log(0)", disk.log(0), 0);
        CHECKS.due("flash(40, 0)", disk.flash(40, 0), -1);
        CHECKS.due("at(1, 0, 0)", Checks.at(disk, 1, 0, 0), "0");
        CHECKS.due("open()", disk.open(), 2);
    }

    /** "nothing WAITS" */
    private static void nothingWaitsAfterwards() {
        CarDisk disk = withRows(6);
        disk.cut(0, 0);
        disk.open();
        CHECKS.due("how many wait", disk.space(1), 0);
        CHECKS.due("the number is free again", disk.space(3), 1);
        CHECKS.due("sync()", disk.sync(), 0);
        CHECKS.dueSector("nothing is written", disk, 2, BLANK);
    }

    /** "octets of the next ROW are lost, too" */
    private static void octetsOfTheNextRowAreLost() {
        CarDisk disk = withRows(1);
        Checks.addAll(disk, 7, 8);
        disk.cut(1, 64);
        disk.open();
        CHECKS.due("no octets", disk.end(1), -3);
        Checks.row(disk, 2, 9);
        disk.sync();
        CHECKS.due("a row's first octet", Checks.at(disk, 2, 0, 0), "9");
        CHECKS.due("its only one", Checks.at(disk, 2, 0, 1), "throws");
    }

    /** "Nothing when the disk is CLOSED." */
    private static void nothingWhenClosed() {
        CarDisk disk = withRows(1);
        disk.cut(0, 0);
        disk.cut(5, 64);
        disk.cut(0, 64);
        CHECKS.dueSector("no head", disk, 0, BLANK);
        CHECKS.dueSector("no other head", disk, 1, BLANK);
        CHECKS.dueSector("no row", disk, 2, BLANK);
        CHECKS.due("still closed", disk.sync(), -3);
        CHECKS.due("open()", disk.open(), 0);
    }
}
