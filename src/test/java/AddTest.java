/** Promise 2: add. */
public final class AddTest {
    private static final Checks CHECKS = new Checks();

    public static void main(String[] args) {
        octetsComeInOrder();
        everyOctetCanBe();
        theFortyEighthIsKept();
        theFortyNinthIsLost();
        thereIsRoomAgainBehindAnEnd();
        octetsStayOverASync();
        octetsAreLostOnAClosedDisk();
        aFullRowStaysFullWhileThereIsNoRoom();
        CHECKS.finish();
    }

    /** "An octet more for the next ROW" */
    private static void octetsComeInOrder() {
        CarDisk disk = new CarDisk(8);
        Checks.row(disk, 2, 3, 1, 2);
        disk.sync();
        CHECKS.due("octet 0", Checks.at(disk, 2, 0, 0), "3");
        CHECKS.due("octet 1", Checks.at(disk, 2, 0, 1), "1");
        CHECKS.due("octet 2", Checks.at(disk, 2, 0, 2), "2");
        CHECKS.due("octet 3", Checks.at(disk, 2, 0, 3), "throws");
    }

    private static void everyOctetCanBe() {
        for (int octet = -128; octet <= 127; octet++) {
            CarDisk disk = new CarDisk(8);
            Checks.row(disk, 1, octet);
            disk.sync();
            CHECKS.due("octet " + octet, Checks.at(disk, 1, 0, 0), Integer.toString(octet));
            CHECKS.due("octet " + octet + " on the disk", Checks.octet(disk, 2, 6), octet & 255);
        }
    }

    private static CarDisk withOctets(int howMany) {
        CarDisk disk = new CarDisk(8);
        for (int n = 1; n <= howMany; n++) {
            disk.add((byte) n);
        }
        return disk;
    }

    private static void dueOneTo48(String name, CarDisk disk) {
        for (int i = 0; i < 48; i++) {
            String octet = name + ", octet " + i;
            CHECKS.due(octet, Checks.at(disk, 1, 0, i), Integer.toString(i + 1));
        }
        CHECKS.due(name + ", behind the last", Checks.at(disk, 1, 0, 48), "throws");
    }

    /** "lost if it has 48": it has 47 yet. */
    private static void theFortyEighthIsKept() {
        CarDisk disk = withOctets(48);
        CHECKS.due("end of 48 octets", disk.end(1), 1);
        disk.sync();
        dueOneTo48("48 octets", disk);
    }

    /** "lost if it has 48" */
    private static void theFortyNinthIsLost() {
        int[] more = {49, 50, 96, 300};
        for (int octets : more) {
            CarDisk disk = withOctets(octets);
            CHECKS.due("end of " + octets + " octets", disk.end(1), 1);
            CHECKS.due("nothing is left over", disk.end(1), -3);
            disk.sync();
            dueOneTo48(octets + " octets", disk);
        }
    }

    private static void thereIsRoomAgainBehindAnEnd() {
        CarDisk disk = withOctets(49);
        disk.end(1);
        Checks.row(disk, 1, 77);
        disk.sync();
        CHECKS.due("the next row", Checks.at(disk, 1, 1, 0), "77");
        CHECKS.due("the next row has one octet", Checks.at(disk, 1, 1, 1), "throws");
    }

    private static void octetsStayOverASync() {
        CarDisk disk = new CarDisk(8);
        disk.add((byte) 1);
        disk.sync();
        disk.add((byte) 2);
        CHECKS.due("end behind a sync", disk.end(1), 1);
        disk.sync();
        CHECKS.due("from before the sync", Checks.at(disk, 1, 0, 0), "1");
        CHECKS.due("from behind the sync", Checks.at(disk, 1, 0, 1), "2");
    }

    /** "or the disk is CLOSED" */
    private static void octetsAreLostOnAClosedDisk() {
        CarDisk disk = new CarDisk(8);
        disk.cut(0, 0);
        disk.add((byte) 1);
        disk.open();
        CHECKS.due("end without octets", disk.end(1), -3);
        CHECKS.due("a row later", Checks.row(disk, 1, 9), 1);
        disk.sync();
        CHECKS.due("its octet", Checks.at(disk, 1, 0, 0), "9");
        CHECKS.due("its only one", Checks.at(disk, 1, 0, 1), "throws");
    }

    private static void aFullRowStaysFullWhileThereIsNoRoom() {
        CarDisk disk = new CarDisk(8);
        Checks.rows(disk, 2, 6, 0);
        for (int n = 1; n <= 49; n++) {
            disk.add((byte) n);
        }
        CHECKS.due("no room", disk.end(1), -4);
        disk.add((byte) 99);
        disk.sync();
        disk.add((byte) 99);
        CHECKS.due("room", disk.end(1), 7);
        disk.sync();
        dueOneTo48("a row that was refused", disk);
    }
}
