/** Promise 1: a new object. */
public final class NewObjectTest {
    private static final Checks CHECKS = new Checks();

    public static void main(String[] args) {
        dueSectors(8, 8);
        dueSectors(9, 9);
        dueSectors(16, 16);
        dueSectors(63, 63);
        dueSectors(64, 64);
        dueSectors(7, 16);
        dueSectors(65, 16);
        dueSectors(0, 16);
        dueSectors(-8, 16);
        dueSectors(Integer.MIN_VALUE, 16);
        dueSectors(Integer.MAX_VALUE, 16);
        CHECKS.finish();
    }

    private static void dueSectors(int asked, int made) {
        CarDisk disk = new CarDisk(asked);
        String name = "new CarDisk(" + asked + ")";
        CHECKS.due(name + " space(2)", disk.space(2), made - 2);
        CHECKS.due(name + " space(0)", disk.space(0), made - 2);
        CHECKS.due(name + " space(1)", disk.space(1), 0);
        CHECKS.due(name + " space(3)", disk.space(3), 1);
        CHECKS.due(name + " open()", disk.open(), -3);
        CHECKS.due(name + " log(0)", disk.log(0), 0);
        CHECKS.due(name + " snapshot()", disk.snapshot(), 1);
        CHECKS.due(name + " flash(0, 0)", disk.flash(0, 0), -1);
        CHECKS.due(name + " at(1, 0, 0)", Checks.at(disk, 1, 0, 0), "0");
        CHECKS.due(name + " wrong(0)", disk.wrong(0), 0);
        CHECKS.due(name + " wrong(1)", disk.wrong(1), -1);
        CHECKS.due(name + " wrong(2)", disk.wrong(2), 0);
        CHECKS.due(name + " first octet", disk.poke(0, 0), 0);
        CHECKS.due(name + " last octet", disk.poke(made * 64 - 1, 0), 0);
        CHECKS.due(name + " behind the last", disk.poke(made * 64, 0), -2);
        CHECKS.due(name + " end(1)", disk.end(1), -3);
        CHECKS.due(name + " reopened", Checks.reopen(disk), 0);
    }
}
