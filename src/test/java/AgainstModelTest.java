import java.util.ArrayList;
import java.util.Arrays;
import java.util.List;
import java.util.Random;

/**
 * Long runs of mixed calls, each answer compared with that of a second, plain writing of the
 * document: what one promise does to another shows here. The runs are the same each time.
 */
public final class AgainstModelTest {
    private static final int RUNS = 3000;
    private static final int CALLS = 512;
    private static final int[] EDGES = {-1, 0, 1, 47, 48, 49, 63, 64, 65, 127, 128, 255, 256,
        1000000, 1000001, Integer.MIN_VALUE, Integer.MAX_VALUE};

    private final Checks checks = new Checks();
    private final Random random = new Random(20261116);
    private CarDisk disk;
    private Model model;
    private String run;
    private int callsLeft;

    public static void main(String[] args) {
        AgainstModelTest test = new AgainstModelTest();
        for (int n = 0; n < RUNS; n++) {
            test.oneRun(n);
        }
        test.checks.finish();
    }

    private void oneRun(int n) {
        int sectors = random.nextInt(4) == 0 ? 5 + random.nextInt(63) : 8 + random.nextInt(3);
        disk = new CarDisk(sectors);
        model = new Model(sectors);
        callsLeft = CALLS;
        run = "run " + n + " of new CarDisk(" + sectors + "): ";
        while (callsLeft > 0) {
            someCalls();
        }
    }

    private void someCalls() {
        switch (random.nextInt(24)) {
            case 0, 1, 2, 3, 4, 5, 6 -> row();
            case 7, 8 -> due("sync()", disk.sync(), model.sync());
            case 9 -> cut();
            case 10, 11 -> due("open()", disk.open(), model.open());
            case 12 -> pokeAnywhere();
            case 13 -> laySector();
            case 14 -> end(near(4));
            default -> ask();
        }
    }

    private void due(String call, long got, long want) {
        callsLeft--;
        if (callsLeft >= 0) {
            checks.due(run + call, got, want);
        }
    }

    /** A number of 0 to limit, now and then one a little outside or at an edge. */
    private int near(int limit) {
        int choice = random.nextInt(12);
        if (choice == 0) {
            return EDGES[random.nextInt(EDGES.length)];
        }
        return choice == 1 ? random.nextInt(limit + 5) - 2 : random.nextInt(limit + 1);
    }

    private void row() {
        int length = random.nextInt(8) == 0 ? random.nextInt(52) : random.nextInt(4);
        for (int i = 0; i < length; i++) {
            byte octet = (byte) (i == 0 ? random.nextInt(3) - 1 : random.nextInt(256));
            disk.add(octet);
            model.add(octet);
            callsLeft--;
        }
        end(random.nextInt(3) == 0 ? 4 : 1 + random.nextInt(4));
    }

    private void end(int kind) {
        due("end(" + kind + ")", disk.end(kind), model.end(kind));
    }

    private void cut() {
        int keep = near(model.waiting.size() + 1);
        int tear = near(64);
        disk.cut(keep, tear);
        model.cut(keep, tear);
        callsLeft--;
    }

    private void poke(int place, int mask) {
        due("poke(" + place + ", " + mask + ")", disk.poke(place, mask), model.poke(place, mask));
    }

    private void pokeAnywhere() {
        int place = near(model.sectors.length * 64 - 1);
        poke(place, random.nextInt(3) == 0 ? random.nextInt() : 1 << random.nextInt(9));
        if (random.nextInt(2) == 0) {
            ask();
            poke(place, 0);
        }
    }

    /** Lays a sector whose sum fits, with a number, a kind and a length that may be odd ones. */
    private void laySector() {
        int sector = random.nextInt(model.sectors.length);
        int next = model.next;
        int number = random.nextInt(6) == 0 ? near(1000000) : next - 4 + random.nextInt(9);
        if (sector >= 2 && number >= 1 && random.nextInt(3) != 0) {
            sector = 2 + (number - 1) % model.ring;
        }
        int kind = sector < 2 ? 9 : random.nextInt(5) == 0 ? near(9) & 255 : 1 + random.nextInt(4);
        int length = random.nextInt(2) == 0 ? near(48) & 255 : 2;
        int[] shall = sector < 2 ? Checks.head(number)
            : Checks.rowTelling(length, number, kind, random.nextInt(3), random.nextInt(256));
        for (int i = 0; i < 64; i++) {
            int mask = model.sectors[sector][i] ^ shall[i];
            if (mask != 0) {
                poke(sector * 64 + i, mask);
            }
        }
    }

    private void ask() {
        int a = near(4);
        int b = near(6);
        int c = near(8);
        due("wrong(" + b + ")", disk.wrong(b), model.wrong(b));
        due("space(" + a + ")", disk.space(a), model.space(a));
        due("log(" + b + ")", disk.log(b), model.log(b));
        due("snapshot()", disk.snapshot(), model.snapshot());
        due("flash(" + a + ", " + c + ")", disk.flash(a, c), model.flash(a, c));
        callsLeft--;
        if (callsLeft >= 0) {
            String call = "at(" + a + ", " + b + ", " + c + ")";
            checks.due(run + call, Checks.at(disk, a, b, c), model.at(a, b, c));
        }
    }

    private record Row(int number, int kind, int[] octets) { }

    private static final class Model {
        final int[][] sectors;
        final int ring;
        final List<Row> waiting = new ArrayList<>();
        private List<Row> written = new ArrayList<>();
        private final List<Integer> octets = new ArrayList<>();
        private int heads = 0;
        int next = 1;
        private boolean closed = false;

        Model(int asked) {
            sectors = new int[asked < 8 || asked > 64 ? 16 : asked][64];
            ring = sectors.length - 2;
        }

        void add(byte b) {
            if (!closed && octets.size() < 48) {
                octets.add(b & 255);
            }
        }

        int end(int kind) {
            if (kind < 1 || kind > 4) {
                return -2;
            }
            if (closed || octets.isEmpty()) {
                return -3;
            }
            if (waiting.size() == ring) {
                return -4;
            }
            waiting.add(new Row(next, kind, octets.stream().mapToInt(o -> o).toArray()));
            octets.clear();
            return next++;
        }

        private int place(int number) {
            return 2 + Math.floorMod(number - 1, ring);
        }

        private void write(int which, int octetsWritten) {
            boolean head = which == waiting.size();
            int sector = head ? heads % 2 : place(waiting.get(which).number());
            int[] image = head ? Checks.head(next - 1) : Checks.rowSector(
                waiting.get(which).number(), waiting.get(which).kind(), waiting.get(which).octets());
            System.arraycopy(image, 0, sectors[sector], 0, octetsWritten);
        }

        int sync() {
            if (closed) {
                return -3;
            }
            for (int n = 0; n <= waiting.size(); n++) {
                write(n, 64);
            }
            for (Row row : waiting) {
                written.removeIf(old -> place(old.number()) == place(row.number()));
                written.add(row);
            }
            waiting.clear();
            heads++;
            return next - 1;
        }

        void cut(int keep, int tear) {
            if (closed) {
                return;
            }
            for (int n = 0; n <= waiting.size(); n++) {
                if (n < keep) {
                    write(n, 64);
                } else if (n == Math.max(keep, 0)) {
                    write(n, Math.min(64, Math.max(0, tear)));
                }
            }
            waiting.clear();
            octets.clear();
            closed = true;
        }

        private boolean good(int[] sector) {
            return sector[4] != 0 && Arrays.equals(sector, Checks.sealed(sector));
        }

        private int number(int[] s) {
            long number = ((long) s[0] << 24) + (s[1] << 16) + (s[2] << 8) + s[3];
            return number > 1000000 ? 0 : (int) number;
        }

        private Row readRow(int number) {
            int[] s = sectors[place(number)];
            if (!good(s) || s[4] > 4 || number(s) != number) {
                return null;
            }
            int length = s[5] > 127 ? 0 : s[5] > 48 ? 48 : s[5];
            return new Row(number, s[4], Arrays.copyOfRange(s, 6, 6 + length));
        }

        private int greatestRow() {
            int greatest = 0;
            for (int n = 2; n < sectors.length; n++) {
                int number = number(sectors[n]);
                if (number > greatest && place(number) == n && readRow(number) != null) {
                    greatest = number;
                }
            }
            return greatest;
        }

        private int greatestHead() {
            int first = good(sectors[0]) ? number(sectors[0]) : 0;
            int second = good(sectors[1]) ? number(sectors[1]) : 0;
            return Math.max(first, second);
        }

        int open() {
            if (!closed) {
                return -3;
            }
            written = new ArrayList<>();
            int last = greatestRow();
            for (int number = last; number >= 1; number--) {
                Row row = readRow(number);
                if (row == null) {
                    break;
                }
                written.add(0, row);
            }
            next = Math.max(last, greatestHead()) + 1;
            heads = 0;
            closed = false;
            return written.size();
        }

        String at(int kind, int row, int i) {
            List<Row> rows = written.stream().filter(r -> r.kind() == kind).toList();
            if (closed || row < 0 || row >= rows.size()) {
                return "0";
            }
            int[] has = rows.get(row).octets();
            return i < 0 || i >= has.length ? "throws" : Integer.toString((byte) has[i]);
        }

        int poke(int place, int mask) {
            if (place < 0 || place >= sectors.length * 64) {
                return -2;
            }
            sectors[place / 64][place % 64] ^= mask & 255;
            return sectors[place / 64][place % 64];
        }

        int wrong(int what) {
            if (what < 0 || what > 2) {
                return -2;
            }
            if (what == 2) {
                int missing = 0;
                int last = greatestHead();
                for (int number = last; number > last - ring && number >= 1; number--) {
                    missing += readRow(number) == null ? 1 : 0;
                }
                return missing;
            }
            List<Integer> bad = new ArrayList<>();
            for (int n = 0; n < sectors.length; n++) {
                if (Arrays.stream(sectors[n]).anyMatch(o -> o != 0) && !good(sectors[n])) {
                    bad.add(n);
                }
            }
            return what == 0 ? bad.size() : bad.isEmpty() ? -1 : bad.get(0);
        }

        int snapshot() {
            List<Integer> all = new ArrayList<>();
            for (Row row : written) {
                all.add(row.kind());
                Arrays.stream(row.octets()).forEach(all::add);
            }
            return closed ? -3 : Checks.sum(all.stream().mapToInt(o -> o).toArray());
        }

        int log(int n) {
            return closed || n < 0 || n >= written.size() ? 0 : written.get(n).number();
        }

        int flash(int file, int i) {
            List<Integer> content = new ArrayList<>();
            for (Row row : written) {
                int[] has = row.octets();
                if (row.kind() == 4 && has.length > 0 && has[0] == file) {
                    Arrays.stream(has).skip(1).forEach(content::add);
                }
            }
            return closed || i < 0 || i >= content.size() ? -1 : content.get(i);
        }

        int space(int what) {
            if (what < 0 || what > 3) {
                return -2;
            }
            int[] answers = {ring - written.size(), waiting.size(), ring, next};
            return closed ? -3 : answers[what];
        }
    }
}
