import java.util.NoSuchElementException;

/**
 * A file of records of any length on 96 pages: cells behind slots, stubs for values that are away,
 * chains of pages for long ones, and crashes back to any change since the latest sync.
 */
public final class SlotFile {
    public static final int NONE = -1;

    private static final int MAX_LENGTH = 1200;
    private static final int MAX_SEED = 255;
    private static final int PAGES = 96;
    private static final int SLOTS = 32;
    private static final int RECORDS = PAGES * SLOTS;

    private final Image file;
    private final Image synced;
    private final Journal journal;
    private int crashes;

    public SlotFile() {
        file = new Image();
        synced = new Image();
        journal = new Journal();
        crashes = 0;
    }

    public int insert(int length, int seed) throws IllegalArgumentException {
        checkValue(length, seed);
        if (journal.isFull()) {
            return NONE;
        }
        int record = file.addRecord(length, seed);
        if (record != NONE) {
            journal.noteInsert(length, seed);
        }
        return record;
    }

    public boolean update(int record, int length, int seed) throws NoSuchElementException, IllegalArgumentException {
        checkRecord(record);
        checkValue(length, seed);
        if (journal.isFull() || !file.changeRecord(record, length, seed)) {
            return false;
        }
        journal.noteUpdate(record, length, seed);
        return true;
    }

    public int delete(int record) throws NoSuchElementException {
        checkRecord(record);
        if (journal.isFull()) {
            return NONE;
        }
        int length = file.lengthOf(record);
        file.removeRecord(record);
        journal.noteDelete(record);
        return length;
    }

    public int length(int record) {
        return file.isRecord(record) ? file.lengthOf(record) : NONE;
    }

    public int byteAt(int record, int i) throws NoSuchElementException {
        checkRecord(record);
        if (i < 0 || i >= file.lengthOf(record)) {
            return NONE;
        }
        return (file.seedOf(record) + 7 * i + i / 16) % 256;
    }

    public int where(int record, int what) throws NoSuchElementException, IllegalArgumentException {
        checkRecord(record);
        switch (what) {
            case 0:
                return file.valueCell(record) / SLOTS;
            case 1:
                return file.valueCell(record) % SLOTS;
            case 2:
                return Image.chainPages(file.lengthOf(record));
            case 3:
                return file.chainOf(file.valueCell(record));
            default:
                throw new IllegalArgumentException();
        }
    }

    public int next(int record) {
        // Looked at before one is added: the greatest int would wrap around.
        if (record >= RECORDS - 1) {
            return NONE;
        }
        return file.firstRecordFrom(record < 0 ? 0 : record + 1);
    }

    public int page(int page, int what) throws IllegalArgumentException {
        if (page < 0 || page >= PAGES || what < 0 || what > 8) {
            throw new IllegalArgumentException();
        }
        if (what == 0) {
            return file.kindOf(page);
        }
        return what <= 6 ? file.cellsPageFact(page, what) : file.chainPageFact(page, what);
    }

    public int slot(int page, int slot) throws IllegalArgumentException {
        if (page < 0 || page >= PAGES || slot < 0) {
            throw new IllegalArgumentException();
        }
        return file.slotFact(page, slot);
    }

    public int sync() {
        int changes = journal.count();
        synced.copyFrom(file);
        journal.clear();
        return changes;
    }

    public int crash(int k) throws IllegalArgumentException {
        if (k < 0 || k > journal.count()) {
            throw new IllegalArgumentException();
        }
        int lost = journal.count() - k;
        journal.redo(synced, k);
        file.copyFrom(synced);
        journal.clear();
        crashes++;
        return lost;
    }

    public int total(int what) throws IllegalArgumentException {
        switch (what) {
            case 0:
                return file.countCells(Image.HOME) + file.countCells(Image.STUB);
            case 1:
                return file.countPages(Image.FREE);
            case 2:
                return file.countPages(Image.OF_CELLS);
            case 3:
                return file.countPages(Image.OF_CHAIN);
            case 4:
                return file.countCells(Image.STUB);
            case 5:
                return journal.count();
            case 6:
                return file.compactions();
            case 7:
                return crashes;
            default:
                throw new IllegalArgumentException();
        }
    }

    private void checkRecord(int record) {
        if (!file.isRecord(record)) {
            throw new NoSuchElementException();
        }
    }

    private static void checkValue(int length, int seed) {
        if (length < 0 || length > MAX_LENGTH || seed < 0 || seed > MAX_SEED) {
            throw new IllegalArgumentException();
        }
    }

    /** The changes since the latest sync, so that a crash can make the first of them once more. */
    private static final class Journal {
        // As many as an object has calls: behind them answers are free, and a change is refused.
        private static final int LIMIT = 512;

        private final int[] records = new int[LIMIT];
        private final int[] lengths = new int[LIMIT];
        private final int[] seeds = new int[LIMIT];
        private int count = 0;

        int count() {
            return count;
        }

        boolean isFull() {
            return count >= LIMIT;
        }

        void clear() {
            count = 0;
        }

        void noteInsert(int length, int seed) {
            note(NONE, length, seed);
        }

        void noteUpdate(int record, int length, int seed) {
            note(record, length, seed);
        }

        void noteDelete(int record) {
            note(record, NONE, NONE);
        }

        private void note(int record, int length, int seed) {
            if (count < LIMIT) {
                records[count] = record;
                lengths[count] = length;
                seeds[count] = seed;
                count++;
            }
        }

        void redo(Image image, int k) {
            for (int i = 0; i < k && i < count; i++) {
                if (records[i] == NONE) {
                    image.addRecord(lengths[i], seeds[i]);
                } else if (lengths[i] == NONE) {
                    image.removeRecord(records[i]);
                } else {
                    image.changeRecord(records[i], lengths[i], seeds[i]);
                }
            }
        }
    }

    /** The pages as they are at one moment. A cell is told by a number like a record's: 32 page + slot. */
    private static final class Image {
        static final int FREE = 0;
        static final int OF_CELLS = 1;
        static final int OF_CHAIN = 2;

        static final int EMPTY = 0;
        static final int HOME = 1;
        static final int STUB = 2;
        static final int AWAY = 3;

        private static final int PAGE_BYTES = 248;
        private static final int SLOT_BYTES = 4;
        private static final int SHORT_LENGTH = 100;
        private static final int LONG_BYTES = 9;
        private static final int AWAY_BYTES = 4;
        private static final int LEAST_BYTES = 5;
        private static final int CHAIN_BYTES = 240;
        private static final int CLASS_BYTES = 31;

        private final int[] pageKinds = new int[PAGES];
        private final int[] slotCounts = new int[PAGES];
        private final int[] usedBytes = new int[PAGES];
        private final int[] ends = new int[PAGES];
        private final int[] nextPages = new int[PAGES];
        private final int[] chainBytes = new int[PAGES];

        private final int[] cellKinds = new int[RECORDS];
        private final int[] lengths = new int[RECORDS];
        private final int[] seeds = new int[RECORDS];
        // A stub's leads to the cell that is away, a long value's to the first page of its chain.
        private final int[] leads = new int[RECORDS];

        private int compactions = 0;

        /** Compactions stay: they are counted over all crashes. */
        void copyFrom(Image other) {
            System.arraycopy(other.pageKinds, 0, pageKinds, 0, PAGES);
            System.arraycopy(other.slotCounts, 0, slotCounts, 0, PAGES);
            System.arraycopy(other.usedBytes, 0, usedBytes, 0, PAGES);
            System.arraycopy(other.ends, 0, ends, 0, PAGES);
            System.arraycopy(other.nextPages, 0, nextPages, 0, PAGES);
            System.arraycopy(other.chainBytes, 0, chainBytes, 0, PAGES);
            System.arraycopy(other.cellKinds, 0, cellKinds, 0, RECORDS);
            System.arraycopy(other.lengths, 0, lengths, 0, RECORDS);
            System.arraycopy(other.seeds, 0, seeds, 0, RECORDS);
            System.arraycopy(other.leads, 0, leads, 0, RECORDS);
        }

        // What records are like.

        boolean isRecord(int record) {
            return record >= 0 && record < RECORDS && isHomeOfRecord(record);
        }

        private boolean isHomeOfRecord(int cell) {
            return cellKinds[cell] == HOME || cellKinds[cell] == STUB;
        }

        int valueCell(int record) {
            return cellKinds[record] == STUB ? leads[record] : record;
        }

        int lengthOf(int record) {
            return lengths[valueCell(record)];
        }

        int seedOf(int record) {
            return seeds[valueCell(record)];
        }

        int chainOf(int cell) {
            return lengths[cell] > SHORT_LENGTH ? leads[cell] : NONE;
        }

        int firstRecordFrom(int from) {
            int slot = from % SLOTS;
            for (int page = from / SLOTS; page < PAGES; page++) {
                for (; slot < slotCounts[page]; slot++) {
                    if (isHomeOfRecord(page * SLOTS + slot)) {
                        return page * SLOTS + slot;
                    }
                }
                slot = 0;
            }
            return NONE;
        }

        // What pages are like.

        int kindOf(int page) {
            return pageKinds[page];
        }

        int cellsPageFact(int page, int what) {
            if (pageKinds[page] != OF_CELLS) {
                return NONE;
            }
            switch (what) {
                case 1:
                    return slotCounts[page];
                case 2:
                    return slotCounts[page] - countInPage(page, EMPTY);
                case 3:
                    return room(page);
                case 4:
                    return ends[page];
                case 5:
                    return roomClass(page);
                case 6:
                    return countInPage(page, STUB);
                default:
                    return NONE;
            }
        }

        int chainPageFact(int page, int what) {
            if (pageKinds[page] != OF_CHAIN) {
                return NONE;
            }
            return what == 7 ? nextPages[page] : chainBytes[page];
        }

        int slotFact(int page, int slot) {
            return slot < slotCounts[page] ? cellKinds[page * SLOTS + slot] : NONE;
        }

        int countPages(int kind) {
            int count = 0;
            for (int page = 0; page < PAGES; page++) {
                if (pageKinds[page] == kind) {
                    count++;
                }
            }
            return count;
        }

        int countCells(int kind) {
            int count = 0;
            for (int page = 0; page < PAGES; page++) {
                count += countInPage(page, kind);
            }
            return count;
        }

        private int countInPage(int page, int kind) {
            int count = 0;
            for (int slot = 0; slot < slotCounts[page]; slot++) {
                if (cellKinds[page * SLOTS + slot] == kind) {
                    count++;
                }
            }
            return count;
        }

        int compactions() {
            return compactions;
        }

        private int room(int page) {
            return PAGE_BYTES - SLOT_BYTES * slotCounts[page] - usedBytes[page];
        }

        private int roomClass(int page) {
            return room(page) / CLASS_BYTES;
        }

        // Changes: each is looked at whole before its first step, so that a refused one leaves no trace.

        int addRecord(int length, int seed) {
            int page = placeFor(bytesOf(HOME, length), chainPages(length), NONE, NONE);
            if (page == NONE || !hasFreePages(chainPages(length))) {
                return NONE;
            }
            return addCell(page, HOME, length, seed, takeChain(length));
        }

        boolean changeRecord(int record, int length, int seed) {
            if (!hasFreePages(chainPages(length))) {
                return false;
            }
            int old = valueCell(record);
            int oldChain = chainOf(old);
            if (fitsInstead(record, bytesOf(HOME, length))) {
                changeCell(record, HOME, length, seed, takeChain(length));
                removeIfAway(record, old);
            } else if (old != record && fitsInstead(old, bytesOf(AWAY, length))) {
                changeCell(old, AWAY, length, seed, takeChain(length));
            } else {
                int page = placeFor(bytesOf(AWAY, length), chainPages(length), record / SLOTS, old / SLOTS);
                if (page == NONE) {
                    return false;
                }
                int away = addCell(page, AWAY, length, seed, takeChain(length));
                changeCell(record, STUB, 0, 0, away);
                removeIfAway(record, old);
            }
            freeChain(oldChain);
            return true;
        }

        void removeRecord(int record) {
            int cell = valueCell(record);
            freeChain(chainOf(cell));
            removeIfAway(record, cell);
            removeCell(record);
        }

        private void removeIfAway(int record, int cell) {
            if (cell != record) {
                removeCell(cell);
            }
        }

        // Places.

        /** The first free pages are kept for the chain, which takes them before the place is looked for. */
        private int placeFor(int bytes, int chain, int notHere, int norHere) {
            int need = bytes + SLOT_BYTES;
            int best = NONE;
            int first = NONE;
            for (int page = 0; page < PAGES; page++) {
                if (page == notHere || page == norHere || !hasPlace(page, need)) {
                    continue;
                }
                if (first == NONE) {
                    first = page;
                }
                if (roomClass(page) * CLASS_BYTES >= need && (best == NONE || roomClass(page) < roomClass(best))) {
                    best = page;
                }
            }
            if (best != NONE) {
                return best;
            }
            return first != NONE ? first : freePageBehind(chain);
        }

        private boolean hasPlace(int page, int need) {
            return pageKinds[page] == OF_CELLS && room(page) >= need && emptySlot(page) < SLOTS;
        }

        private int emptySlot(int page) {
            int slot = 0;
            while (slot < slotCounts[page] && cellKinds[page * SLOTS + slot] != EMPTY) {
                slot++;
            }
            return slot;
        }

        private int freePageBehind(int others) {
            int left = others;
            for (int page = 0; page < PAGES; page++) {
                if (pageKinds[page] == FREE) {
                    if (left == 0) {
                        return page;
                    }
                    left--;
                }
            }
            return NONE;
        }

        private boolean hasFreePages(int count) {
            return count == 0 || freePageBehind(count - 1) != NONE;
        }

        private boolean fitsInstead(int cell, int bytes) {
            return room(cell / SLOTS) + bytesAt(cell) >= bytes;
        }

        // Cells.

        private static int bytesOf(int kind, int length) {
            if (kind == STUB) {
                return LEAST_BYTES;
            }
            int own = length > SHORT_LENGTH ? LONG_BYTES : length + 1;
            return Math.max(LEAST_BYTES, kind == AWAY ? own + AWAY_BYTES : own);
        }

        private int bytesAt(int cell) {
            return bytesOf(cellKinds[cell], lengths[cell]);
        }

        private int addCell(int page, int kind, int length, int seed, int lead) {
            int slot = emptySlot(page);
            boolean isNew = slot >= slotCounts[page];
            putAtEnd(page, bytesOf(kind, length), isNew ? SLOT_BYTES : 0);
            if (isNew) {
                slotCounts[page] = slot + 1;
            }
            pageKinds[page] = OF_CELLS;
            int cell = page * SLOTS + slot;
            writeCell(cell, kind, length, seed, lead);
            return cell;
        }

        private void changeCell(int cell, int kind, int length, int seed, int lead) {
            int page = cell / SLOTS;
            int bytes = bytesOf(kind, length);
            boolean stays = bytes <= bytesAt(cell);
            usedBytes[page] -= bytesAt(cell);
            if (stays) {
                usedBytes[page] += bytes;
            } else {
                putAtEnd(page, bytes, 0);
            }
            writeCell(cell, kind, length, seed, lead);
        }

        private void removeCell(int cell) {
            int page = cell / SLOTS;
            usedBytes[page] -= bytesAt(cell);
            writeCell(cell, EMPTY, 0, 0, NONE);
            while (slotCounts[page] > 0 && cellKinds[page * SLOTS + slotCounts[page] - 1] == EMPTY) {
                slotCounts[page]--;
            }
            if (slotCounts[page] == 0) {
                pageKinds[page] = FREE;
                ends[page] = 0;
            }
        }

        private void putAtEnd(int page, int bytes, int slotBytes) {
            int between = PAGE_BYTES - SLOT_BYTES * slotCounts[page] - ends[page];
            if (between < bytes + slotBytes) {
                ends[page] = usedBytes[page];
                compactions++;
            }
            ends[page] += bytes;
            usedBytes[page] += bytes;
        }

        private void writeCell(int cell, int kind, int length, int seed, int lead) {
            cellKinds[cell] = kind;
            lengths[cell] = length;
            seeds[cell] = seed;
            leads[cell] = lead;
        }

        // Chains.

        static int chainPages(int length) {
            return length > SHORT_LENGTH ? (length + CHAIN_BYTES - 1) / CHAIN_BYTES : 0;
        }

        private int takeChain(int length) {
            int count = chainPages(length);
            int first = NONE;
            int last = NONE;
            for (int i = 0; i < count; i++) {
                int page = freePageBehind(0);
                if (page == NONE) {
                    break;
                }
                pageKinds[page] = OF_CHAIN;
                nextPages[page] = NONE;
                chainBytes[page] = Math.min(CHAIN_BYTES, length - i * CHAIN_BYTES);
                if (last == NONE) {
                    first = page;
                } else {
                    nextPages[last] = page;
                }
                last = page;
            }
            return first;
        }

        private void freeChain(int first) {
            int page = first;
            for (int i = 0; i < PAGES && page != NONE; i++) {
                pageKinds[page] = FREE;
                page = nextPages[page];
            }
        }
    }
}
