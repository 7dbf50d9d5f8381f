/**
 * Rows of octets on the sectors of a disk, in a ring, with sums and two heads that tell what was
 * acknowledged. Rows wait until they are written; a cut keeps the first of them and tears one.
 */
public final class CarDisk {
    private static final int OUT_OF_RANGE = -2;
    private static final int WRONG_STATE = -3;
    private static final int NO_ROOM = -4;
    private static final int NONE = -1;

    private static final int FEWEST_SECTORS = 8;
    private static final int MOST_SECTORS = 64;
    private static final int USUAL_SECTORS = 16;
    private static final int HEADS = 2;

    private static final int SECTOR_OCTETS = 64;
    private static final int NUMBER_PLACE = 0;
    private static final int KIND_PLACE = 4;
    private static final int LENGTH_PLACE = 5;
    private static final int ROW_PLACE = 6;
    private static final int SUM_PLACE = 60;

    private static final int MOST_ROW_OCTETS = 48;
    private static final int MOST_OCTETS_TOLD = 127;
    private static final int MOST_NUMBER_READ = 1000000;
    private static final int LAST_KIND = 4;
    private static final int FILE_KIND = 4;
    private static final int HEAD_MARK = 9;

    private static final int FIRST_SUM = 1;
    private static final int SUM_FACTOR = -1028477379;

    /** R of the document: 6 to 62, by the constructor. */
    private final int ring;
    private final Sectors disk;
    /** The rows that wait, with room for one head behind them. */
    private final Sectors waiting;
    private final KnownRows known;
    private final byte[] octets;
    private int octetCount;
    private int waitingCount;
    private int nextNumber;
    private int nextHead;
    private boolean closed;

    public CarDisk(int sectors) {
        boolean possible = sectors >= FEWEST_SECTORS && sectors <= MOST_SECTORS;
        int count = possible ? sectors : USUAL_SECTORS;
        ring = count - HEADS;
        disk = new Sectors(count);
        waiting = new Sectors(ring + 1);
        known = new KnownRows(ring);
        octets = new byte[MOST_ROW_OCTETS];
        octetCount = 0;
        waitingCount = 0;
        nextNumber = 1;
        nextHead = 0;
        closed = false;
    }

    public void add(byte b) {
        if (!closed && octetCount < octets.length) {
            octets[octetCount] = b;
            octetCount++;
        }
    }

    public int end(int kind) {
        if (!isRowKind(kind)) {
            return OUT_OF_RANGE;
        }
        if (closed || octetCount == 0) {
            return WRONG_STATE;
        }
        if (waitingCount >= ring) {
            return NO_ROOM;
        }
        int number = nextNumber;
        waiting.layRow(waitingCount, number, kind, octets, octetCount);
        waitingCount++;
        nextNumber++;
        octetCount = 0;
        return number;
    }

    public int sync() {
        if (closed) {
            return WRONG_STATE;
        }
        writeFirst(waitingCount + 1, 0);
        for (int n = 0; n < waitingCount; n++) {
            known.take(waiting, n, slotOf(waiting.number(n)));
        }
        waitingCount = 0;
        nextHead = 1 - nextHead;
        return lastNumber();
    }

    public void cut(int keep, int tear) {
        if (closed) {
            return;
        }
        writeFirst(Math.max(keep, 0), Math.max(0, Math.min(tear, SECTOR_OCTETS)));
        waitingCount = 0;
        octetCount = 0;
        closed = true;
    }

    public int open() {
        if (!closed) {
            return WRONG_STATE;
        }
        int last = greatestRow();
        known.forget();
        for (int number = oldestInTurn(last); number <= last; number++) {
            known.take(disk, sectorOf(number), slotOf(number));
        }
        nextNumber = Math.max(last, greatestHead()) + 1;
        nextHead = 0;
        closed = false;
        return known.size();
    }

    public byte at(int kind, int row, int i) throws ArrayIndexOutOfBoundsException {
        int slot = closed ? NONE : known.slotOfKind(kind, row);
        if (slot == NONE) {
            return 0;
        }
        if (i < 0 || i >= known.length(slot)) {
            throw new ArrayIndexOutOfBoundsException("the row has no such octet");
        }
        return (byte) known.octet(slot, i);
    }

    public int poke(int place, int mask) {
        return disk.alter(place, mask);
    }

    public int wrong(int what) {
        switch (what) {
            case 0:
                return badSectors();
            case 1:
                return firstBadSector();
            case 2:
                return missingRows();
            default:
                return OUT_OF_RANGE;
        }
    }

    public int snapshot() {
        return closed ? WRONG_STATE : known.sum();
    }

    public int log(int n) {
        int slot = closed ? NONE : known.slot(n);
        return slot == NONE ? 0 : known.number(slot);
    }

    public int flash(int file, int i) {
        return closed ? NONE : known.fileOctet(file, i);
    }

    public int space(int what) {
        if (what < 0 || what > 3) {
            return OUT_OF_RANGE;
        }
        if (closed) {
            return WRONG_STATE;
        }
        switch (what) {
            case 0:
                return ring - known.size();
            case 1:
                return waitingCount;
            case 2:
                return ring;
            default:
                return nextNumber;
        }
    }

    private static boolean isRowKind(int kind) {
        return kind >= 1 && kind <= LAST_KIND;
    }

    private static int stir(int sum, int octet) {
        int mixed = sum ^ octet;
        return (mixed << 5 | mixed >>> 27) * SUM_FACTOR;
    }

    /** Numbers go on without a gap, so this one stands for the last row even if that was altered. */
    private int lastNumber() {
        return nextNumber - 1;
    }

    /** Which of the ring's places row number (1 or more) has. */
    private int slotOf(int number) {
        return ring > 0 ? (number - 1) % ring : 0;
    }

    private int sectorOf(int number) {
        return HEADS + slotOf(number);
    }

    /** Writes the first of the waiting rows and their head whole, and of the next one some octets. */
    private void writeFirst(int whole, int torn) {
        waiting.layHead(waitingCount, lastNumber());
        for (int n = 0; n <= waitingCount && n <= whole; n++) {
            int target = n < waitingCount ? sectorOf(waiting.number(n)) : nextHead;
            disk.copy(waiting, n, target, n < whole ? SECTOR_OCTETS : torn);
        }
    }

    /** The number of the row that is sound in this sector and belongs there, 0 for none. */
    private int rowIn(int sector) {
        if (!disk.isGood(sector) || !isRowKind(disk.kind(sector))) {
            return 0;
        }
        int number = disk.numberRead(sector);
        return number > 0 && sectorOf(number) == sector ? number : 0;
    }

    private int greatestRow() {
        int greatest = 0;
        for (int sector = HEADS; sector < disk.size(); sector++) {
            greatest = Math.max(greatest, rowIn(sector));
        }
        return greatest;
    }

    private int greatestHead() {
        int greatest = 0;
        for (int sector = 0; sector < HEADS; sector++) {
            if (disk.isGood(sector)) {
                greatest = Math.max(greatest, disk.numberRead(sector));
            }
        }
        return greatest;
    }

    /** The least number from which all rows up to the last are there; last + 1 if none is. */
    private int oldestInTurn(int last) {
        int oldest = last + 1;
        for (int n = 0; n < ring && oldest > 1; n++) {
            if (rowIn(sectorOf(oldest - 1)) != oldest - 1) {
                break;
            }
            oldest--;
        }
        return oldest;
    }

    private int badSectors() {
        int bad = 0;
        for (int sector = 0; sector < disk.size(); sector++) {
            if (disk.isBad(sector)) {
                bad++;
            }
        }
        return bad;
    }

    private int firstBadSector() {
        for (int sector = 0; sector < disk.size(); sector++) {
            if (disk.isBad(sector)) {
                return sector;
            }
        }
        return NONE;
    }

    private int missingRows() {
        int last = greatestHead();
        int missing = 0;
        for (int number = Math.max(1, last - ring + 1); number <= last; number++) {
            if (rowIn(sectorOf(number)) != number) {
                missing++;
            }
        }
        return missing;
    }

    /** Sectors one behind the other; every place is looked at before it is used. */
    private static final class Sectors {
        private final int count;
        private final byte[] cells;

        Sectors(int count) {
            this.count = Math.max(count, 0);
            cells = new byte[this.count * SECTOR_OCTETS];
        }

        int size() {
            return count;
        }

        private boolean has(int place) {
            return place >= 0 && place < cells.length;
        }

        int octet(int sector, int i) {
            int place = sector * SECTOR_OCTETS + i;
            return has(place) ? cells[place] & 255 : 0;
        }

        private void setOctet(int sector, int i, int value) {
            int place = sector * SECTOR_OCTETS + i;
            if (has(place)) {
                cells[place] = (byte) value;
            }
        }

        int alter(int place, int mask) {
            if (!has(place)) {
                return OUT_OF_RANGE;
            }
            cells[place] = (byte) (cells[place] ^ mask);
            return cells[place] & 255;
        }

        private int word(int sector, int i) {
            return octet(sector, i) << 24 | octet(sector, i + 1) << 16
                | octet(sector, i + 2) << 8 | octet(sector, i + 3);
        }

        private void setWord(int sector, int i, int value) {
            setOctet(sector, i, value >>> 24);
            setOctet(sector, i + 1, value >>> 16);
            setOctet(sector, i + 2, value >>> 8);
            setOctet(sector, i + 3, value);
        }

        int number(int sector) {
            return word(sector, NUMBER_PLACE);
        }

        /** The number as an opening takes it: 0 for one that no disk can be trusted to hold. */
        int numberRead(int sector) {
            int number = number(sector);
            return number >= 1 && number <= MOST_NUMBER_READ ? number : 0;
        }

        int kind(int sector) {
            return octet(sector, KIND_PLACE);
        }

        /** How many octets the row has: an altered sector may tell more than fit. */
        int rowLength(int sector) {
            int told = octet(sector, LENGTH_PLACE);
            return told > MOST_OCTETS_TOLD ? 0 : Math.min(told, MOST_ROW_OCTETS);
        }

        int rowOctet(int sector, int i) {
            return octet(sector, ROW_PLACE + i);
        }

        private int sumDue(int sector) {
            int sum = FIRST_SUM;
            for (int i = 0; i < SUM_PLACE; i++) {
                sum = stir(sum, octet(sector, i));
            }
            return sum;
        }

        boolean isGood(int sector) {
            return kind(sector) != 0 && word(sector, SUM_PLACE) == sumDue(sector);
        }

        boolean isBad(int sector) {
            return !isBlank(sector) && !isGood(sector);
        }

        private boolean isBlank(int sector) {
            for (int i = 0; i < SECTOR_OCTETS; i++) {
                if (octet(sector, i) != 0) {
                    return false;
                }
            }
            return true;
        }

        private void layMark(int sector, int number, int kind) {
            for (int i = 0; i < SECTOR_OCTETS; i++) {
                setOctet(sector, i, 0);
            }
            setWord(sector, NUMBER_PLACE, number);
            setOctet(sector, KIND_PLACE, kind);
        }

        private void seal(int sector) {
            setWord(sector, SUM_PLACE, sumDue(sector));
        }

        void layHead(int sector, int number) {
            layMark(sector, number, HEAD_MARK);
            seal(sector);
        }

        void layRow(int sector, int number, int kind, byte[] octets, int length) {
            layMark(sector, number, kind);
            setOctet(sector, LENGTH_PLACE, length);
            for (int i = 0; i < length && i < octets.length; i++) {
                setOctet(sector, ROW_PLACE + i, octets[i]);
            }
            seal(sector);
        }

        /** Takes the first octets of a sector of others; the rest of the target stays. */
        void copy(Sectors from, int source, int target, int length) {
            for (int i = 0; i < length && i < SECTOR_OCTETS; i++) {
                setOctet(target, i, from.octet(source, i));
            }
        }
    }

    /** The rows that were written, as they were then: what is altered on the disk later is not seen. */
    private static final class KnownRows {
        private final Sectors images;
        /** The slots of the rows, the oldest row first. */
        private final int[] order;
        private int count;

        KnownRows(int ring) {
            images = new Sectors(ring);
            order = new int[images.size()];
            count = 0;
        }

        int size() {
            return count;
        }

        void forget() {
            count = 0;
        }

        /** A newer row than all others; the one that had its slot is gone. */
        void take(Sectors from, int sector, int slot) {
            leave(slot);
            if (count < order.length) {
                images.copy(from, sector, slot, SECTOR_OCTETS);
                order[count] = slot;
                count++;
            }
        }

        private void leave(int slot) {
            int kept = 0;
            for (int n = 0; n < count && n < order.length; n++) {
                if (order[n] != slot) {
                    order[kept] = order[n];
                    kept++;
                }
            }
            count = kept;
        }

        int slot(int n) {
            return n >= 0 && n < count && n < order.length ? order[n] : NONE;
        }

        int slotOfKind(int kind, int row) {
            int before = 0;
            for (int n = 0; n < count; n++) {
                int slot = slot(n);
                if (images.kind(slot) == kind) {
                    if (before == row) {
                        return slot;
                    }
                    before++;
                }
            }
            return NONE;
        }

        int number(int slot) {
            return images.number(slot);
        }

        int length(int slot) {
            return images.rowLength(slot);
        }

        int octet(int slot, int i) {
            return images.rowOctet(slot, i);
        }

        int sum() {
            int sum = FIRST_SUM;
            for (int n = 0; n < count; n++) {
                int slot = slot(n);
                sum = stir(sum, images.kind(slot));
                for (int i = 0; i < length(slot); i++) {
                    sum = stir(sum, octet(slot, i));
                }
            }
            return sum;
        }

        private boolean isOfFile(int slot, int file) {
            return images.kind(slot) == FILE_KIND && length(slot) > 0 && octet(slot, 0) == file;
        }

        int fileOctet(int file, int i) {
            int left = i;
            for (int n = 0; n < count && left >= 0; n++) {
                int slot = slot(n);
                if (isOfFile(slot, file)) {
                    int others = length(slot) - 1;
                    if (left < others) {
                        return octet(slot, left + 1);
                    }
                    left -= others;
                }
            }
            return NONE;
        }
    }
}
