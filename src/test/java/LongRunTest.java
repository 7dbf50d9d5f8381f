/** "An object is used for at most 512 calls after it has been made": all of them answer. */
public final class LongRunTest {
    private static final Checks CHECKS = new Checks();

    public static void main(String[] args) {
        octetsAlone();
        rowsOneByOne();
        syncsAlone();
        cutsAndOpenings();
        rowsThatAreAlwaysLost();
        octetsThatAreNeverThere();
        CHECKS.finish();
    }

    private static void octetsAlone() {
        CarDisk disk = new CarDisk(8);
        for (int call = 1; call <= 509; call++) {
            disk.add((byte) call);
        }
        CHECKS.due("call 510, end(1)", disk.end(1), 1);
        CHECKS.due("call 511, sync()", disk.sync(), 1);
        CHECKS.due("call 512, at(1, 0, 47)", Checks.at(disk, 1, 0, 47), "48");
    }

    /** 170 rows go round a ring of 6 for 28 laps and two rows more. */
    private static void rowsOneByOne() {
        CarDisk disk = new CarDisk(8);
        for (int number = 1; number <= 170; number++) {
            disk.add((byte) number);
            CHECKS.due("end(1)", disk.end(1), number);
            CHECKS.due("sync()", disk.sync(), number);
        }
        CHECKS.due("call 511, the oldest", disk.log(0), 165);
        CHECKS.due("call 512, the last", disk.log(5), 170);
    }

    private static void syncsAlone() {
        CarDisk disk = new CarDisk(64);
        for (int call = 1; call <= 512; call++) {
            CHECKS.due("sync()", disk.sync(), 0);
        }
    }

    private static void cutsAndOpenings() {
        CarDisk disk = new CarDisk(64);
        disk.add((byte) 1);
        disk.end(1);
        disk.cut(2, 0);
        CHECKS.due("open()", disk.open(), 1);
        for (int n = 0; n < 254; n++) {
            disk.cut(n % 2, n % 65);
            CHECKS.due("open()", disk.open(), 1);
        }
    }

    private static void rowsThatAreAlwaysLost() {
        CarDisk disk = new CarDisk(8);
        for (int n = 0; n < 128; n++) {
            disk.add((byte) n);
            CHECKS.due("end(1)", disk.end(1), 1);
            disk.cut(0, n % 64);
            CHECKS.due("open()", disk.open(), 0);
        }
    }

    private static void octetsThatAreNeverThere() {
        CarDisk disk = new CarDisk(8);
        disk.add((byte) 1);
        disk.end(1);
        disk.sync();
        for (int call = 4; call <= 512; call++) {
            CHECKS.due("at(1, 0, " + call + ")", Checks.at(disk, 1, 0, call), "throws");
        }
    }
}
