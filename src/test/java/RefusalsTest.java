/**
 * Terms: "REFUSALS change nothing and answer, the first that fits: -2 outside a range, -3 not in
 * this state, -4 no room." Of two objects with the same calls one is refused a call more; all that
 * can be asked, then and behind some further calls, must be the same of both.
 */
public final class RefusalsTest {
    private static final Checks CHECKS = new Checks();
    private static final int SECTORS = 8;

    private interface State {
        CarDisk make();
    }

    private interface Call {
        long answer(CarDisk disk);
    }

    public static void main(String[] args) {
        kindsThatAreNone();
        anEndWithoutOctets();
        anEndWithoutRoom();
        callsOfAClosedDisk();
        anOpeningOfAnOpenDisk();
        placesThatAreNone();
        questionsThatAreNone();
        octetsThatAreLost();
        askingChangesNothing();
        outsideARangeGoesBeforeTheState();
        outsideARangeGoesBeforeNoRoom();
        theStateGoesBeforeNoRoom();
        CHECKS.finish();
    }

    /** Rows 1 and 2 are written, row 3 waits, and there are octets of a fourth. */
    private static CarDisk busy() {
        CarDisk disk = new CarDisk(SECTORS);
        Checks.row(disk, 4, 1, 2);
        disk.sync();
        Checks.row(disk, 1, 3);
        disk.sync();
        disk.sync();
        Checks.row(disk, 2, 4, 5);
        Checks.addAll(disk, 6, 7);
        return disk;
    }

    private static CarDisk withoutOctets() {
        CarDisk disk = busy();
        disk.end(3);
        return disk;
    }

    /** R rows wait. */
    private static CarDisk full() {
        CarDisk disk = withoutOctets();
        Checks.rows(disk, 1, 4, 20);
        return disk;
    }

    private static CarDisk fullWithOctets() {
        CarDisk disk = full();
        Checks.addAll(disk, 8, 9);
        return disk;
    }

    private static CarDisk with48Octets() {
        CarDisk disk = busy();
        for (int n = 0; n < 46; n++) {
            disk.add((byte) n);
        }
        return disk;
    }

    private static CarDisk closed() {
        CarDisk disk = busy();
        disk.poke(3 * 64 + 63, 1);
        disk.cut(0, 10);
        return disk;
    }

    private static void dueRefused(String name, State state, Call call, long answer) {
        for (int part = 0; part < SECTORS / 2; part++) {
            CarDisk refused = state.make();
            CarDisk spared = state.make();
            CHECKS.due(name, call.answer(refused), answer);
            CHECKS.due(name + ", all behind it", allOf(refused, part), allOf(spared, part));
        }
    }

    /** Two sectors at a time: an object has 512 calls alone. */
    private static String allOf(CarDisk disk, int part) {
        StringBuilder all = new StringBuilder();
        tellAnswers(disk, all);
        tellOctets(disk, part, all);
        disk.add((byte) 90);
        all.append(" end ").append(disk.end(4)).append(" sync ").append(disk.sync());
        all.append(" end ").append(disk.end(1)).append(" sync ").append(disk.sync());
        tellAnswers(disk, all);
        disk.cut(0, 5);
        all.append(" open ").append(disk.open());
        tellAnswers(disk, all);
        tellOctets(disk, part, all);
        return all.toString();
    }

    private static void tellAnswers(CarDisk disk, StringBuilder all) {
        all.append(" snapshot ").append(disk.snapshot());
        for (int what = 0; what <= 3; what++) {
            all.append(" space ").append(disk.space(what)).append(" wrong ").append(disk.wrong(what));
        }
        for (int n = 0; n < SECTORS - 2; n++) {
            all.append(" log ").append(disk.log(n)).append(" flash ").append(disk.flash(1, n));
            all.append(" at ").append(Checks.at(disk, 1 + n % 4, 0, n / 4));
        }
    }

    private static void tellOctets(CarDisk disk, int part, StringBuilder all) {
        for (int i = 0; i < 128; i++) {
            all.append(' ').append(Checks.octet(disk, 2 * part, i));
        }
    }

    private static void kindsThatAreNone() {
        int[] kinds = {0, 5, -1, Integer.MIN_VALUE, Integer.MAX_VALUE};
        for (int kind : kinds) {
            dueRefused("end(" + kind + ")", RefusalsTest::busy, disk -> disk.end(kind), -2);
        }
    }

    private static void anEndWithoutOctets() {
        dueRefused("end(1), new", () -> new CarDisk(SECTORS), disk -> disk.end(1), -3);
        dueRefused("end(4), no octets", RefusalsTest::withoutOctets, disk -> disk.end(4), -3);
    }

    private static void anEndWithoutRoom() {
        dueRefused("end(2), full", RefusalsTest::fullWithOctets, disk -> disk.end(2), -4);
    }

    private static void callsOfAClosedDisk() {
        dueRefused("end(1), closed", RefusalsTest::closed, disk -> disk.end(1), -3);
        dueRefused("sync(), closed", RefusalsTest::closed, CarDisk::sync, -3);
        dueRefused("snapshot(), closed", RefusalsTest::closed, CarDisk::snapshot, -3);
        for (int n = 0; n <= 3; n++) {
            int what = n;
            dueRefused("space(" + n + "), closed", RefusalsTest::closed, disk -> disk.space(what), -3);
        }
        dueRefused("cut(9, 64), closed", RefusalsTest::closed, disk -> {
            disk.cut(9, 64);
            return 0;
        }, 0);
    }

    private static void anOpeningOfAnOpenDisk() {
        dueRefused("open(), new", () -> new CarDisk(SECTORS), CarDisk::open, -3);
        dueRefused("open(), busy", RefusalsTest::busy, CarDisk::open, -3);
        dueRefused("open(), altered", () -> {
            CarDisk disk = busy();
            disk.poke(2 * 64 + 7, 1);
            return disk;
        }, CarDisk::open, -3);
        dueRefused("open(), full", RefusalsTest::fullWithOctets, CarDisk::open, -3);
    }

    private static void placesThatAreNone() {
        int[] places = {-1, SECTORS * 64, Integer.MIN_VALUE, Integer.MAX_VALUE};
        for (int place : places) {
            String name = "poke(" + place + ", 255)";
            dueRefused(name, RefusalsTest::busy, disk -> disk.poke(place, 255), -2);
            dueRefused(name + ", closed", RefusalsTest::closed, disk -> disk.poke(place, 255), -2);
        }
    }

    private static void questionsThatAreNone() {
        int[] below = {-1, Integer.MIN_VALUE};
        for (int what : below) {
            dueRefused("wrong(" + what + ")", RefusalsTest::busy, disk -> disk.wrong(what), -2);
            dueRefused("space(" + what + ")", RefusalsTest::busy, disk -> disk.space(what), -2);
        }
        int[] above = {3, Integer.MAX_VALUE};
        for (int what : above) {
            dueRefused("wrong(" + what + ")", RefusalsTest::busy, disk -> disk.wrong(what), -2);
        }
        dueRefused("space(4)", RefusalsTest::busy, disk -> disk.space(4), -2);
    }

    /** These answer nothing, and change nothing either. */
    private static void octetsThatAreLost() {
        dueRefused("add, closed", RefusalsTest::closed, disk -> {
            disk.add((byte) 77);
            return 0;
        }, 0);
        dueRefused("add, 48 octets", RefusalsTest::with48Octets, disk -> {
            disk.add((byte) 77);
            return 0;
        }, 0);
    }

    private static void askingChangesNothing() {
        dueRefused("at(1, 0, 48)", RefusalsTest::busy,
            disk -> "throws".equals(Checks.at(disk, 1, 0, 48)) ? 1 : 0, 1);
        dueRefused("at(5, 0, 0)", RefusalsTest::busy, disk -> disk.at(5, 0, 0), 0);
        dueRefused("log(-1)", RefusalsTest::busy, disk -> disk.log(-1), 0);
        dueRefused("flash(256, 0)", RefusalsTest::busy, disk -> disk.flash(256, 0), -1);
        dueRefused("poke(0, 256)", RefusalsTest::busy, disk -> disk.poke(3, 256), 2);
    }

    private static void outsideARangeGoesBeforeTheState() {
        dueRefused("end(0), closed", RefusalsTest::closed, disk -> disk.end(0), -2);
        dueRefused("end(5), closed", RefusalsTest::closed, disk -> disk.end(5), -2);
        dueRefused("end(0), no octets", RefusalsTest::withoutOctets, disk -> disk.end(0), -2);
        dueRefused("end(5), no octets", RefusalsTest::withoutOctets, disk -> disk.end(5), -2);
        dueRefused("space(-1), closed", RefusalsTest::closed, disk -> disk.space(-1), -2);
        dueRefused("space(4), closed", RefusalsTest::closed, disk -> disk.space(4), -2);
        dueRefused("wrong(3), closed", RefusalsTest::closed, disk -> disk.wrong(3), -2);
    }

    private static void outsideARangeGoesBeforeNoRoom() {
        dueRefused("end(0), full", RefusalsTest::fullWithOctets, disk -> disk.end(0), -2);
        dueRefused("end(5), full", RefusalsTest::fullWithOctets, disk -> disk.end(5), -2);
        dueRefused("end(5), full, no octets", RefusalsTest::full, disk -> disk.end(5), -2);
    }

    private static void theStateGoesBeforeNoRoom() {
        dueRefused("end(1), full, no octets", RefusalsTest::full, disk -> disk.end(1), -3);
    }
}
