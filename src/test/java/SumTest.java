/** Terms: the sum, and when a sector is good. */
public final class SumTest {
    private static final Checks CHECKS = new Checks();

    public static void main(String[] args) {
        theSumOfNoOctets();
        sumsWorkedOutElsewhere();
        octetsAreWithoutSign();
        everyOctetCounts();
        everyBitOfTheSumCounts();
        aSectorOf0sIsNotWrong();
        octet4Is0();
        octet4IsNot0();
        theSumOfAllOther0s();
        theHighestOctetStandsFirst();
        CHECKS.finish();
    }

    /** "s = 1 at first" */
    private static void theSumOfNoOctets() {
        CHECKS.due("snapshot() of no octets", new CarDisk(8).snapshot(), 1);
    }

    /** "s xor b, turned to the left by 5, times -1028477379, in 32 bits" */
    private static void sumsWorkedOutElsewhere() {
        CarDisk disk = new CarDisk(8);
        Checks.row(disk, 1, 5);
        disk.sync();
        CHECKS.due("sum of 1, 5", disk.snapshot(), -1347623392);
        CarDisk empty = new CarDisk(8);
        empty.sync();
        int[] due = {80, 77, 152, 125};
        for (int i = 0; i < 4; i++) {
            CHECKS.due("octet " + i + " of a head's sum", Checks.octet(empty, 0, 60 + i), due[i]);
        }
    }

    /** "for each octet b (0 .. 255)" */
    private static void octetsAreWithoutSign() {
        CarDisk disk = new CarDisk(8);
        Checks.row(disk, 1, -1, -128);
        disk.sync();
        CHECKS.due("sum of 1, 255, 128", disk.snapshot(), -54475421);
        CHECKS.due("the row is good", disk.wrong(0), 0);
    }

    /** "of a sector those of octets 0 to 59" */
    private static void everyOctetCounts() {
        CarDisk disk = new CarDisk(8);
        Checks.row(disk, 1, 5);
        disk.sync();
        for (int i = 0; i < 64; i++) {
            disk.poke(2 * 64 + i, 16);
            CHECKS.due("bad with octet " + i + " altered", disk.wrong(0), 1);
            disk.poke(2 * 64 + i, 16);
        }
        CHECKS.due("all as it was", disk.wrong(0), 0);
    }

    /** "it stands in octets 60 to 63" */
    private static void everyBitOfTheSumCounts() {
        CarDisk disk = new CarDisk(8);
        Checks.row(disk, 1, 5);
        disk.sync();
        for (int bit = 0; bit < 32; bit++) {
            int place = 2 * 64 + 60 + bit / 8;
            disk.poke(place, 1 << bit % 8);
            CHECKS.due("bad with bit " + bit + " of the sum altered", disk.wrong(1), 2);
            disk.poke(place, 1 << bit % 8);
        }
        CHECKS.due("all as it was", disk.wrong(1), -1);
    }

    /** A sector of 0s is not good, but nothing is there to be wrong. */
    private static void aSectorOf0sIsNotWrong() {
        CarDisk disk = new CarDisk(8);
        CHECKS.due("nothing but 0s", disk.wrong(0), 0);
        Checks.lay(disk, 0, Checks.head(1));
        CHECKS.due("no row in a sector of 0s", disk.wrong(2), 1);
    }

    /** "A sector is GOOD if it does, and its octet 4 is not 0.": the sum fits, octet 4 is 0. */
    private static void octet4Is0() {
        CarDisk disk = new CarDisk(8);
        Checks.lay(disk, 2, Checks.rowSector(1, 0, 5));
        CHECKS.due("a row's sector", disk.wrong(1), 2);
        int[] head = Checks.head(4);
        head[4] = 0;
        Checks.lay(disk, 1, Checks.sealed(head));
        CHECKS.due("a head", disk.wrong(1), 1);
        CHECKS.due("it tells of nothing", disk.wrong(2), 0);
    }

    /** The sum fits, and octet 4 is anything else, though no row has such a kind. */
    private static void octet4IsNot0() {
        int[] marks = {1, 4, 5, 9, 127, 128, 255};
        for (int mark : marks) {
            CarDisk disk = new CarDisk(8);
            Checks.lay(disk, 2, Checks.rowSector(1, mark, 5));
            CHECKS.due("octet 4 is " + mark, disk.wrong(0), 0);
        }
    }

    /** A sum over 0s is not 0, so that octets 60 to 63 alone may differ from 0. */
    private static void theSumOfAllOther0s() {
        CarDisk disk = new CarDisk(8);
        int[] sector = new int[64];
        System.arraycopy(new int[] {151, 232, 153, 149}, 0, sector, 60, 4);
        Checks.lay(disk, 7, sector);
        CHECKS.due("octet 4 is 0", disk.wrong(1), 7);
    }

    /** "the highest first" */
    private static void theHighestOctetStandsFirst() {
        CarDisk disk = new CarDisk(8);
        int[] sector = Checks.rowSector(1, 1, 5);
        int[] turned = sector.clone();
        for (int i = 0; i < 4; i++) {
            turned[60 + i] = sector[63 - i];
        }
        Checks.lay(disk, 2, turned);
        CHECKS.due("the lowest first", disk.wrong(1), 2);
        Checks.change(disk, 2, turned, sector);
        CHECKS.due("the highest first", disk.wrong(1), -1);
    }
}
