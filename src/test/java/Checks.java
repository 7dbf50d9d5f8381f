import java.util.Arrays;

/** What the tests of the project share: counting wrong answers, and sectors built by the document. */
final class Checks {
    private int wrong = 0;

    void due(String call, long got, long want) {
        due(call, Long.toString(got), Long.toString(want));
    }

    void due(String call, String got, String want) {
        if (!got.equals(want)) {
            wrong++;
            System.out.println(call + " answered " + got + ", due is " + want);
        }
    }

    void finish() {
        if (wrong != 0) {
            System.out.println(wrong + " answers are not as due");
            System.exit(1);
        }
    }

    /** A whole sector of the disk (64 calls). */
    void dueSector(String call, CarDisk disk, int sector, int[] want) {
        int[] got = new int[64];
        for (int i = 0; i < 64; i++) {
            got[i] = octet(disk, sector, i);
        }
        due(call + ", sector " + sector, Arrays.toString(got), Arrays.toString(want));
    }

    static void addAll(CarDisk disk, int... octets) {
        for (int octet : octets) {
            disk.add((byte) octet);
        }
    }

    void dueLog(String call, CarDisk disk, int... numbers) {
        for (int n = 0; n < numbers.length; n++) {
            due(call + ", log(" + n + ")", disk.log(n), numbers[n]);
        }
        due(call + ", behind the last", disk.log(numbers.length), 0);
    }

    static int row(CarDisk disk, int kind, int... octets) {
        addAll(disk, octets);
        return disk.end(kind);
    }

    /** Rows of one octet and of one kind: so many, with the octets first, first + 1, .. */
    static void rows(CarDisk disk, int kind, int howMany, int first) {
        for (int n = 0; n < howMany; n++) {
            row(disk, kind, first + n);
        }
    }

    /** Cuts without any write, and opens anew. */
    static int reopen(CarDisk disk) {
        disk.cut(0, 0);
        return disk.open();
    }

    static String at(CarDisk disk, int kind, int row, int i) {
        try {
            return Integer.toString(disk.at(kind, row, i));
        } catch (ArrayIndexOutOfBoundsException thrown) {
            String text = thrown.getMessage();
            boolean byMachine = text != null && text.contains("out of bounds for length");
            return byMachine ? "thrown by the machine" : "throws";
        }
    }

    /** An octet of the disk, read by poking nothing into it. */
    static int octet(CarDisk disk, int sector, int i) {
        return disk.poke(sector * 64 + i, 0);
    }

    static int number(CarDisk disk, int sector) {
        int number = 0;
        for (int i = 0; i < 4; i++) {
            number = number << 8 | octet(disk, sector, i);
        }
        return number;
    }

    /** The first octets of a write, and the others of what stood there before. */
    static int[] torn(int[] written, int[] before, int tear) {
        int[] result = before.clone();
        System.arraycopy(written, 0, result, 0, tear);
        return result;
    }

    /** A disk without rows whose next row has this number: a head tells of the one before. */
    static CarDisk nextIs(int sectors, int number) {
        CarDisk disk = new CarDisk(sectors);
        lay(disk, 1, head(number - 1));
        reopen(disk);
        return disk;
    }

    static int sum(int... octets) {
        int s = 1;
        for (int b : octets) {
            s = Integer.rotateLeft(s ^ b, 5) * -1028477379;
        }
        return s;
    }

    /** Octets 60 to 63 become the sum of those before them. */
    static int[] sealed(int[] sector) {
        int[] result = sector.clone();
        int s = sum(Arrays.copyOf(sector, 60));
        for (int i = 0; i < 4; i++) {
            result[60 + i] = s >>> (24 - 8 * i) & 255;
        }
        return result;
    }

    private static int[] marked(int number, int kind) {
        int[] sector = new int[64];
        for (int i = 0; i < 4; i++) {
            sector[i] = number >>> (24 - 8 * i) & 255;
        }
        sector[4] = kind;
        return sector;
    }

    static int[] head(int number) {
        return sealed(marked(number, 9));
    }

    /** A row's sector that tells a length of its own choice. */
    static int[] rowTelling(int length, int number, int kind, int... octets) {
        int[] sector = marked(number, kind);
        sector[5] = length;
        for (int i = 0; i < octets.length; i++) {
            sector[6 + i] = octets[i] & 255;
        }
        return sealed(sector);
    }

    static int[] rowSector(int number, int kind, int... octets) {
        return rowTelling(octets.length, number, kind, octets);
    }

    /** Pokes a sector from what it is to what it shall be. */
    static void change(CarDisk disk, int sector, int[] is, int[] shall) {
        for (int i = 0; i < 64; i++) {
            if (is[i] != shall[i]) {
                disk.poke(sector * 64 + i, is[i] ^ shall[i]);
            }
        }
    }

    /** Pokes a sector that is still all 0. */
    static void lay(CarDisk disk, int sector, int[] shall) {
        change(disk, sector, new int[64], shall);
    }
}
