/** Promise 8: poke. */
public final class PokeTest {
    private static final Checks CHECKS = new Checks();

    public static void main(String[] args) {
        masksAndPlaces(8);
        masksAndPlaces(64);
        knownRowsStay();
        closed();
        CHECKS.finish();
    }

    private static void masksAndPlaces(int sectors) {
        CarDisk disk = new CarDisk(sectors);
        int last = sectors * 64 - 1;
        CHECKS.due("poke(0, 200)", disk.poke(0, 200), 200);
        CHECKS.due("poke(0, 0)", disk.poke(0, 0), 200);
        CHECKS.due("poke(0, 256)", disk.poke(0, 256), 200);
        CHECKS.due("poke(0, 0x7fffff01)", disk.poke(0, 0x7fffff01), 201);
        CHECKS.due("poke(0, -1)", disk.poke(0, -1), 54);
        CHECKS.due("the last octet", disk.poke(last, 255), 255);
        CHECKS.due("the one before", disk.poke(last - 1, 0), 0);
        int[] places = {-1, last + 1, Integer.MIN_VALUE, Integer.MAX_VALUE};
        for (int place : places) {
            CHECKS.due("poke(" + place + ", 1)", disk.poke(place, 1), -2);
        }
        CHECKS.due("bad sectors", disk.wrong(0), 2);
    }

    private static void knownRowsStay() {
        CarDisk disk = new CarDisk(8);
        Checks.row(disk, 4, 1, 2);
        disk.sync();
        int before = disk.snapshot();
        disk.poke(2 * 64 + 7, 1);
        disk.poke(2 * 64 + 4, 1);
        disk.poke(2 * 64 + 3, 1);
        CHECKS.due("the octet", Checks.at(disk, 4, 0, 1), "2");
        CHECKS.due("the file", disk.flash(1, 0), 2);
        CHECKS.due("the number", disk.log(0), 1);
        CHECKS.due("the sum", disk.snapshot(), before);
        CHECKS.due("the sector", disk.wrong(1), 2);
        CHECKS.due("open()", Checks.reopen(disk), 0);
    }

    private static void closed() {
        CarDisk disk = new CarDisk(8);
        disk.cut(0, 0);
        CHECKS.due("poke when closed", disk.poke(5, 5), 5);
        CHECKS.due("poke when closed, no place", disk.poke(512, 5), -2);
        CHECKS.due("the sector", disk.wrong(0), 1);
    }
}
