import java.io.IOException;
import java.nio.file.Files;
import java.nio.file.Path;

/** README.md: its example answers what it says, and it names every test of the project. */
public final class ReadmeTest {
    private static final Checks CHECKS = new Checks();

    public static void main(String[] args) throws IOException {
        theExample();
        everyTestIsNamed(Files.readString(Path.of("README.md")));
        CHECKS.finish();
    }

    private static void theExample() {
        CarDisk disk = new CarDisk(8);
        disk.add((byte) 9);
        disk.add((byte) 16);
        CHECKS.due("end(4)", disk.end(4), 1);
        CHECKS.due("sync()", disk.sync(), 1);
        CHECKS.due("flash(9, 0)", disk.flash(9, 0), 16);
        disk.cut(0, 0);
        CHECKS.due("poke(2 * 64 + 7, 1)", disk.poke(2 * 64 + 7, 1), 17);
        CHECKS.due("open()", disk.open(), 0);
        CHECKS.due("wrong(2)", disk.wrong(2), 1);
        CHECKS.due("space(3)", disk.space(3), 2);
    }

    private static void everyTestIsNamed(String text) throws IOException {
        try (var files = Files.list(Path.of("src/test/java"))) {
            for (Path file : files.sorted().toList()) {
                String name = file.getFileName().toString().replace(".java", "");
                boolean named = text.contains("`" + name + "`");
                CHECKS.due("README.md names " + name, named ? "yes" : "no", "yes");
            }
        }
    }
}
