/** Promise 3: end. */
public final class EndTest {
    private static final Checks CHECKS = new Checks();

    public static void main(String[] args) {
        numbersGoOn();
        kindsOutsideTheRange();
        refusalsOfState();
        noRoom();
        aRowWaits();
        CHECKS.finish();
    }

    private static void numbersGoOn() {
        CarDisk disk = new CarDisk(8);
        for (int kind = 1; kind <= 4; kind++) {
            CHECKS.due("end(" + kind + ")", Checks.row(disk, kind, kind), kind);
        }
        disk.sync();
        CHECKS.due("end behind a sync", Checks.row(disk, 1, 1), 5);
    }

    private static void kindsOutsideTheRange() {
        CarDisk disk = new CarDisk(8);
        disk.add((byte) 7);
        int[] none = {0, 5, -1, 9, 257, Integer.MIN_VALUE, Integer.MAX_VALUE};
        for (int kind : none) {
            CHECKS.due("end(" + kind + ")", disk.end(kind), -2);
        }
        CHECKS.due("the octet is still there", disk.end(4), 1);
        CHECKS.due("no kind and no octets", disk.end(0), -2);
        disk.cut(0, 0);
        CHECKS.due("no kind and closed", disk.end(5), -2);
    }

    private static void refusalsOfState() {
        CarDisk disk = new CarDisk(8);
        CHECKS.due("no octets", disk.end(1), -3);
        CHECKS.due("nothing waits", disk.space(1), 0);
        CHECKS.due("no number is used up", disk.space(3), 1);
        disk.cut(0, 0);
        CHECKS.due("closed", Checks.row(disk, 1, 1), -3);
    }

    private static void noRoom() {
        CarDisk disk = new CarDisk(8);
        Checks.rows(disk, 1, 5, 0);
        CHECKS.due("the sixth", Checks.row(disk, 1, 5), 6);
        CHECKS.due("no octets goes before no room", disk.end(1), -3);
        CHECKS.due("the seventh", Checks.row(disk, 2, 50), -4);
        CHECKS.due("no kind goes before no room", disk.end(5), -2);
        CHECKS.due("still six wait", disk.space(1), 6);
        CHECKS.due("the next number", disk.space(3), 7);
        disk.sync();
        disk.add((byte) 51);
        CHECKS.due("room again", disk.end(3), 7);
        disk.sync();
        CHECKS.due("the refused octet", Checks.at(disk, 3, 0, 0), "50");
        CHECKS.due("the one behind it", Checks.at(disk, 3, 0, 1), "51");
    }

    private static void aRowWaits() {
        CarDisk disk = new CarDisk(8);
        Checks.row(disk, 1, 1);
        CHECKS.due("how many wait", disk.space(1), 1);
        CHECKS.due("none was written", disk.log(0), 0);
        CHECKS.dueSector("nothing is on the disk", disk, 2, new int[64]);
    }
}
