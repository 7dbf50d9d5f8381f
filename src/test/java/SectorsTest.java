import java.util.Arrays;

/** Terms: the sectors of the disk, and how a row and a head lie in them. */
public final class SectorsTest {
    private static final Checks CHECKS = new Checks();

    public static void main(String[] args) {
        everyOctetIsAtFirst0();
        twoHeadsAndTheOthersHoldRows();
        theRingGoesRound();
        theShortestRow();
        theLongestRow();
        a0StandsBehindTheOctets();
        aRowIsWrittenOverAllThatStood();
        aHeadIsWrittenOverAllThatStood();
        numbersHaveTheHighestOctetFirst();
        CHECKS.finish();
    }

    /** "THE DISK has SECTORS, numbered from 0 on, of 64 octets, at first 0." */
    private static void everyOctetIsAtFirst0() {
        int[] sizes = {8, 16, 64};
        for (int sectors : sizes) {
            for (int part = 0; part < sectors * 64; part += 512) {
                CarDisk disk = new CarDisk(sectors);
                for (int place = part; place < part + 512; place++) {
                    CHECKS.due("octet " + place + " of " + sectors, disk.poke(place, 0), 0);
                }
            }
        }
    }

    /** "SECTORS 0 and 1 are HEADS, the others, R of them, hold ROWS." */
    private static void twoHeadsAndTheOthersHoldRows() {
        for (int sectors = 8; sectors <= 64; sectors++) {
            CarDisk disk = new CarDisk(sectors);
            Checks.rows(disk, 3, sectors - 2, 0);
            disk.sync();
            disk.sync();
            for (int sector = 0; sector < sectors; sector++) {
                int mark = sector < 2 ? 9 : 3;
                CHECKS.due("sector " + sector + " of " + sectors, Checks.octet(disk, sector, 4), mark);
            }
        }
    }

    /** "ROW n belongs into SECTOR 2 + (n - 1) modulo R." */
    private static void theRingGoesRound() {
        int[] sizes = {8, 9, 16, 63, 64};
        for (int sectors : sizes) {
            CarDisk disk = new CarDisk(sectors);
            int ring = sectors - 2;
            dueLap(disk, sectors, 1, ring);
            dueLap(disk, sectors, ring + 1, 2 * ring);
            CHECKS.due("row 2 R + 1 of " + sectors, Checks.row(disk, 1, 1), 2 * ring + 1);
            disk.sync();
            CHECKS.due("the third lap of " + sectors, Checks.number(disk, 2), 2 * ring + 1);
        }
    }

    private static void dueLap(CarDisk disk, int sectors, int first, int last) {
        Checks.rows(disk, 1, last - first + 1, 0);
        disk.sync();
        CHECKS.due("first of a lap of " + sectors, Checks.number(disk, 2), first);
        CHECKS.due("second of a lap of " + sectors, Checks.number(disk, 3), first + 1);
        CHECKS.due("last of a lap of " + sectors, Checks.number(disk, sectors - 1), last);
    }

    /** "1 to 48 octets": 1. */
    private static void theShortestRow() {
        CarDisk disk = new CarDisk(8);
        Checks.row(disk, 1, 5);
        disk.sync();
        int[] due = new int[64];
        due[3] = 1;
        due[4] = 1;
        due[5] = 1;
        due[6] = 5;
        putSum(due, 7, 93, 232, 100);
        CHECKS.dueSector("one octet", disk, 2, due);
    }

    /** "1 to 48 octets": 48. */
    private static void theLongestRow() {
        CarDisk disk = new CarDisk(8);
        int[] octets = new int[48];
        Arrays.fill(octets, 255);
        Checks.row(disk, 4, octets);
        disk.sync();
        int[] due = new int[64];
        due[3] = 1;
        due[4] = 4;
        due[5] = 48;
        Arrays.fill(due, 6, 54, 255);
        putSum(due, 170, 79, 203, 160);
        CHECKS.dueSector("48 octets", disk, 2, due);
    }

    /** Octets of a sum that were worked out outside this program. */
    private static void putSum(int[] sector, int... octets) {
        System.arraycopy(octets, 0, sector, 60, 4);
    }

    /** "6 and on these, 0 behind them": also when a longer row waited and lay there before. */
    private static void a0StandsBehindTheOctets() {
        CarDisk disk = new CarDisk(8);
        int[] octets = new int[48];
        Arrays.fill(octets, 200);
        Checks.row(disk, 1, octets);
        disk.sync();
        Checks.row(disk, 2, 7, 8);
        disk.sync();
        CHECKS.dueSector("a short row waits in a long one's place", disk, 3,
            Checks.rowSector(2, 2, 7, 8));
        Checks.rows(disk, 3, 5, 0);
        disk.sync();
        CHECKS.dueSector("a short row lies in a long one's sector", disk, 2,
            Checks.rowSector(7, 3, 4));
    }

    private static CarDisk withSectorOf255(int sector) {
        CarDisk disk = new CarDisk(8);
        for (int i = 0; i < 64; i++) {
            disk.poke(sector * 64 + i, 255);
        }
        return disk;
    }

    private static void aRowIsWrittenOverAllThatStood() {
        CarDisk disk = withSectorOf255(2);
        Checks.row(disk, 1, 5);
        disk.sync();
        CHECKS.dueSector("a row over 255s", disk, 2, Checks.rowSector(1, 1, 5));
    }

    /** "A HEAD: .. 4 is 9, others 0." */
    private static void aHeadIsWrittenOverAllThatStood() {
        CarDisk disk = withSectorOf255(0);
        Checks.row(disk, 1, 5);
        disk.sync();
        int[] due = new int[64];
        due[3] = 1;
        due[4] = 9;
        putSum(due, 222, 233, 108, 155);
        CHECKS.dueSector("a head over 255s", disk, 0, due);
    }

    /** "octets 0 to 3 are its NUMBER (the highest first)" */
    private static void numbersHaveTheHighestOctetFirst() {
        dueNumber(255, 0, 0, 0, 255);
        dueNumber(256, 0, 0, 1, 0);
        dueNumber(65535, 0, 0, 255, 255);
        dueNumber(65536, 0, 1, 0, 0);
        dueNumber(1000000, 0, 15, 66, 64);
        dueNumber(1000001, 0, 15, 66, 65);
    }

    private static void dueNumber(int number, int... octets) {
        CarDisk disk = Checks.nextIs(8, number);
        CHECKS.due("end(1)", Checks.row(disk, 1, 5), number);
        CHECKS.due("sync()", disk.sync(), number);
        for (int i = 0; i < 4; i++) {
            String octet = "octet " + i + " of number " + number;
            CHECKS.due(octet + " in a row", Checks.octet(disk, 2 + (number - 1) % 6, i), octets[i]);
            CHECKS.due(octet + " in a head", Checks.octet(disk, 0, i), octets[i]);
        }
    }
}
