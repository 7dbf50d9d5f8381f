/** Promise 2: add. */
public final class AddTest {
    private static final Checks CHECKS = new Checks();

    public static void main(String[] args) {
        octetsComeInOrder();
        theFortyNinthIsLost();
        octetsStayOverASync();
        octetsAreLostOnAClosedDisk();
        CHECKS.finish();
    }

    private static void octetsComeInOrder() {
        CarDisk disk = new CarDisk(8);
        Checks.row(disk, 2, 0, -1, 127, -128, 5);
        disk.sync();
        CHECKS.due("octet 0", Checks.at(disk, 2, 0, 0), "0");
        CHECKS.due("octet 1", Checks.at(disk, 2, 0, 1), "-1");
        CHECKS.due("octet 2", Checks.at(disk, 2, 0, 2), "127");
        CHECKS.due("octet 3", Checks.at(disk, 2, 0, 3), "-128");
        CHECKS.due("octet 4", Checks.at(disk, 2, 0, 4), "5");
        CHECKS.due("octet 5", Checks.at(disk, 2, 0, 5), "throws");
    }

    private static void theFortyNinthIsLost() {
        CarDisk disk = new CarDisk(8);
        for (int n = 1; n <= 50; n++) {
            disk.add((byte) n);
        }
        CHECKS.due("end of 50 octets", disk.end(1), 1);
        CHECKS.due("nothing is left over", disk.end(1), -3);
        disk.sync();
        CHECKS.due("the 48th", Checks.at(disk, 1, 0, 47), "48");
        CHECKS.due("the 49th", Checks.at(disk, 1, 0, 48), "throws");
        Checks.row(disk, 1, 77);
        disk.sync();
        CHECKS.due("the next row", Checks.at(disk, 1, 1, 0), "77");
        CHECKS.due("the next row has one octet", Checks.at(disk, 1, 1, 1), "throws");
    }

    private static void octetsStayOverASync() {
        CarDisk disk = new CarDisk(8);
        disk.add((byte) 1);
        disk.sync();
        disk.add((byte) 2);
        CHECKS.due("end behind a sync", disk.end(1), 1);
        disk.sync();
        CHECKS.due("from before the sync", Checks.at(disk, 1, 0, 0), "1");
        CHECKS.due("from behind the sync", Checks.at(disk, 1, 0, 1), "2");
    }

    private static void octetsAreLostOnAClosedDisk() {
        CarDisk disk = new CarDisk(8);
        disk.cut(0, 0);
        disk.add((byte) 1);
        disk.open();
        CHECKS.due("end without octets", disk.end(1), -3);
        CHECKS.due("a row later", Checks.row(disk, 1, 9), 1);
        disk.sync();
        CHECKS.due("its octet", Checks.at(disk, 1, 0, 0), "9");
    }
}
