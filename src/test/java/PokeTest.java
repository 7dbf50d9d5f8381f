/** Promise 8: poke. */
public final class PokeTest {
    private static final Checks CHECKS = new Checks();
    private static final int[] SIZES = {8, 9, 16, 64};

    public static void main(String[] args) {
        theFirstAndTheLastPlace();
        noPlaceBelow();
        noPlaceAbove();
        aMaskOf0();
        theLowestBitsOfAMask();
        theOctetIsWithoutSign();
        twiceIsAsItWas();
        oneOctetAlone();
        knownRowsStay();
        rowsThatWaitStay();
        aWriteGoesOverIt();
        closed();
        CHECKS.finish();
    }

    private static void theFirstAndTheLastPlace() {
        for (int sectors : SIZES) {
            CarDisk disk = new CarDisk(sectors);
            int last = sectors * 64 - 1;
            CHECKS.due("the first place", disk.poke(0, 1), 1);
            CHECKS.due("the last place of " + sectors, disk.poke(last, 2), 2);
            CHECKS.due("two sectors", disk.wrong(0), 2);
            CHECKS.due("as it is now", disk.poke(0, 0), 1);
            CHECKS.due("as it is now", disk.poke(last, 0), 2);
        }
    }

    /** "-2 there is no such place": too small. */
    private static void noPlaceBelow() {
        int[] places = {-1, -2, -64, Integer.MIN_VALUE};
        for (int sectors : SIZES) {
            dueNoPlace(sectors, places);
        }
    }

    /** "-2 there is no such place": too large. */
    private static void noPlaceAbove() {
        for (int sectors : SIZES) {
            int[] places = {sectors * 64, sectors * 64 + 1, 4096, 65536, Integer.MAX_VALUE};
            dueNoPlace(sectors, places);
        }
    }

    private static void dueNoPlace(int sectors, int[] places) {
        CarDisk disk = new CarDisk(sectors);
        for (int place : places) {
            String name = "poke(" + place + ", ..) of " + sectors;
            CHECKS.due(name, disk.poke(place, 1), -2);
            CHECKS.due(name, disk.poke(place, 0), -2);
        }
        CHECKS.due("nothing has changed", disk.wrong(0), 0);
    }

    private static void aMaskOf0() {
        CarDisk disk = new CarDisk(8);
        CHECKS.due("of a 0", disk.poke(5, 0), 0);
        CHECKS.due("nothing has changed", disk.wrong(0), 0);
        disk.poke(5, 200);
        CHECKS.due("of another", disk.poke(5, 0), 200);
    }

    /** "its xor with the mask's lowest 8 bits" */
    private static void theLowestBitsOfAMask() {
        dueMask(1, 201);
        dueMask(128, 72);
        dueMask(255, 55);
        dueMask(256, 200);
        dueMask(257, 201);
        dueMask(0x7fffff01, 201);
        dueMask(-1, 55);
        dueMask(-256, 200);
        dueMask(Integer.MIN_VALUE, 200);
        dueMask(Integer.MAX_VALUE, 55);
    }

    private static void dueMask(int mask, int due) {
        CarDisk disk = new CarDisk(8);
        disk.poke(70, 200);
        CHECKS.due("poke(70, " + mask + ") of 200", disk.poke(70, mask), due);
        CHECKS.due("as it is now", disk.poke(70, 0), due);
    }

    /** "(0 .. 255)" */
    private static void theOctetIsWithoutSign() {
        CarDisk disk = new CarDisk(8);
        CHECKS.due("128", disk.poke(0, 128), 128);
        CHECKS.due("255", disk.poke(0, 127), 255);
        CHECKS.due("0", disk.poke(0, 255), 0);
    }

    private static void twiceIsAsItWas() {
        CarDisk disk = new CarDisk(8);
        Checks.row(disk, 1, 5);
        disk.sync();
        CHECKS.due("once", disk.poke(2 * 64 + 6, 3), 6);
        CHECKS.due("bad", disk.wrong(0), 1);
        CHECKS.due("twice", disk.poke(2 * 64 + 6, 3), 5);
        CHECKS.due("good", disk.wrong(0), 0);
    }

    private static void oneOctetAlone() {
        CarDisk disk = new CarDisk(8);
        disk.poke(3 * 64, 255);
        int[] due = new int[64];
        due[0] = 255;
        CHECKS.dueSector("its sector", disk, 3, due);
        CHECKS.dueSector("the one before", disk, 2, new int[64]);
    }

    /** "what is known of ROWS stays as it is until the disk is opened" */
    private static void knownRowsStay() {
        CarDisk disk = new CarDisk(8);
        Checks.row(disk, 4, 1, 2);
        disk.sync();
        int before = disk.snapshot();
        for (int i = 0; i < 64; i++) {
            disk.poke(2 * 64 + i, 1);
        }
        CHECKS.due("the octet", Checks.at(disk, 4, 0, 1), "2");
        CHECKS.due("the length", Checks.at(disk, 4, 0, 2), "throws");
        CHECKS.due("the file", disk.flash(1, 0), 2);
        CHECKS.due("the number", disk.log(0), 1);
        CHECKS.due("the room", disk.space(0), 5);
        CHECKS.due("the sum", disk.snapshot(), before);
        CHECKS.due("the sector", disk.wrong(1), 2);
        CHECKS.due("not behind a sync either", disk.sync(), 1);
        CHECKS.due("the number", disk.log(0), 1);
        CHECKS.due("open()", Checks.reopen(disk), 0);
        CHECKS.due("the number", disk.log(0), 0);
    }

    private static void rowsThatWaitStay() {
        CarDisk disk = new CarDisk(8);
        Checks.row(disk, 1, 5);
        disk.poke(2 * 64 + 6, 255);
        disk.sync();
        CHECKS.due("the octet", Checks.at(disk, 1, 0, 0), "5");
        CHECKS.dueSector("on the disk", disk, 2, Checks.rowSector(1, 1, 5));
    }

    private static void aWriteGoesOverIt() {
        CarDisk disk = new CarDisk(8);
        disk.poke(40, 7);
        disk.poke(2 * 64 + 59, 7);
        Checks.row(disk, 1, 5);
        disk.sync();
        CHECKS.due("nothing is wrong", disk.wrong(0), 0);
        CHECKS.due("the head's octet", disk.poke(40, 0), 0);
        CHECKS.due("the row's octet", disk.poke(2 * 64 + 59, 0), 0);
    }

    /** The disk need not be open for it. */
    private static void closed() {
        CarDisk disk = new CarDisk(8);
        disk.cut(0, 0);
        CHECKS.due("poke when closed", disk.poke(5, 5), 5);
        CHECKS.due("poke when closed, no place", disk.poke(512, 5), -2);
        CHECKS.due("poke when closed, no place", disk.poke(-1, 5), -2);
        CHECKS.due("the sector", disk.wrong(0), 1);
    }
}
