/** Promise 3: end. */
public final class EndTest {
    private static final Checks CHECKS = new Checks();

    public static void main(String[] args) {
        numbersGoOn();
        numbersOfLostRowsComeAgain();
        aRowWaits();
        theOctetsAreUsedUp();
        aKindBelow();
        aKindAbove();
        closed();
        noOctets();
        theLastRoom();
        noRoom();
        roomAgain();
        CHECKS.finish();
    }

    /** "its NUMBER", "from 1 on", "a KIND 1 .. 4" */
    private static void numbersGoOn() {
        CarDisk disk = new CarDisk(8);
        for (int kind = 1; kind <= 4; kind++) {
            CHECKS.due("end(" + kind + ")", Checks.row(disk, kind, 10 + kind), kind);
        }
        disk.sync();
        for (int kind = 1; kind <= 4; kind++) {
            CHECKS.due("of kind " + kind, Checks.at(disk, kind, 0, 0), Integer.toString(10 + kind));
            CHECKS.due("kind " + kind + " on the disk", Checks.octet(disk, 1 + kind, 4), kind);
        }
        CHECKS.due("end behind a sync", Checks.row(disk, 1, 1), 5);
    }

    private static void numbersOfLostRowsComeAgain() {
        CarDisk disk = new CarDisk(8);
        Checks.rows(disk, 1, 3, 0);
        disk.cut(1, 0);
        disk.open();
        CHECKS.due("the number of the first lost row", Checks.row(disk, 1, 9), 2);
    }

    /** "a ROW, which WAITS" */
    private static void aRowWaits() {
        CarDisk disk = new CarDisk(8);
        Checks.row(disk, 1, 1);
        CHECKS.due("how many wait", disk.space(1), 1);
        CHECKS.due("none was written", disk.log(0), 0);
        CHECKS.due("no room is used", disk.space(0), 6);
        CHECKS.dueSector("nothing is on the disk", disk, 2, new int[64]);
    }

    private static void theOctetsAreUsedUp() {
        CarDisk disk = new CarDisk(8);
        Checks.row(disk, 1, 1, 2);
        CHECKS.due("no octets are left", disk.end(1), -3);
        Checks.row(disk, 2, 3);
        disk.sync();
        CHECKS.due("octet 0 of the next", Checks.at(disk, 2, 0, 0), "3");
        CHECKS.due("octet 1 of the next", Checks.at(disk, 2, 0, 1), "throws");
    }

    /** "-2 the KIND is none": too small. */
    private static void aKindBelow() {
        int[] kinds = {0, -1, -2, -252, Integer.MIN_VALUE};
        dueNoKind(kinds);
    }

    /** "-2 the KIND is none": too large. */
    private static void aKindAbove() {
        int[] kinds = {5, 9, 127, 128, 256, 257, 260, Integer.MAX_VALUE};
        dueNoKind(kinds);
    }

    private static void dueNoKind(int[] kinds) {
        CarDisk disk = new CarDisk(8);
        disk.add((byte) 7);
        for (int kind : kinds) {
            CHECKS.due("end(" + kind + ")", disk.end(kind), -2);
        }
        CHECKS.due("nothing waits", disk.space(1), 0);
        CHECKS.due("the octet is still there", disk.end(4), 1);
    }

    /** "-3 the disk is CLOSED" */
    private static void closed() {
        CarDisk disk = new CarDisk(8);
        disk.add((byte) 1);
        disk.cut(0, 0);
        CHECKS.due("closed", disk.end(1), -3);
        CHECKS.due("closed, with an octet", Checks.row(disk, 1, 1), -3);
        disk.open();
        CHECKS.due("nothing waits", disk.space(1), 0);
        CHECKS.due("no number is used up", disk.space(3), 1);
    }

    /** "or there are no octets" */
    private static void noOctets() {
        CarDisk disk = new CarDisk(8);
        for (int kind = 1; kind <= 4; kind++) {
            CHECKS.due("end(" + kind + ") of nothing", disk.end(kind), -3);
        }
        CHECKS.due("nothing waits", disk.space(1), 0);
        CHECKS.due("no number is used up", disk.space(3), 1);
        Checks.row(disk, 1, 1);
        disk.sync();
        CHECKS.due("behind a sync", disk.end(1), -3);
        Checks.reopen(disk);
        CHECKS.due("behind an opening", disk.end(1), -3);
    }

    private static int ringOf(int sectors) {
        return sectors - 2;
    }

    /** "-4 R ROWS WAIT": one less do. */
    private static void theLastRoom() {
        for (int sectors = 8; sectors <= 64; sectors++) {
            CarDisk disk = new CarDisk(sectors);
            Checks.rows(disk, 1, ringOf(sectors) - 1, 0);
            CHECKS.due("the last of " + sectors, Checks.row(disk, 1, 5), ringOf(sectors));
        }
    }

    /** "-4 R ROWS WAIT" */
    private static void noRoom() {
        for (int sectors = 8; sectors <= 64; sectors++) {
            CarDisk disk = new CarDisk(sectors);
            int ring = ringOf(sectors);
            Checks.rows(disk, 1, ring, 0);
            CHECKS.due("one too many of " + sectors, Checks.row(disk, 1, 5), -4);
            CHECKS.due("again", disk.end(1), -4);
            CHECKS.due("so many wait", disk.space(1), ring);
            CHECKS.due("the next number", disk.space(3), ring + 1);
            CHECKS.due("sync()", disk.sync(), ring);
            CHECKS.due("the last that was written", disk.log(ring - 1), ring);
        }
    }

    /** Rows that were written do not wait: the ring has room again, with the octets that stayed. */
    private static void roomAgain() {
        CarDisk disk = new CarDisk(8);
        Checks.rows(disk, 1, 6, 0);
        CHECKS.due("no room", Checks.row(disk, 2, 50), -4);
        disk.sync();
        disk.add((byte) 51);
        CHECKS.due("room again", disk.end(3), 7);
        disk.sync();
        CHECKS.due("the refused octet", Checks.at(disk, 3, 0, 0), "50");
        CHECKS.due("the one behind it", Checks.at(disk, 3, 0, 1), "51");
        Checks.rows(disk, 1, 6, 0);
        CHECKS.due("no room again", Checks.row(disk, 1, 1), -4);
        disk.cut(0, 0);
        disk.open();
        CHECKS.due("room behind a cut", Checks.row(disk, 1, 1), 8);
    }
}
