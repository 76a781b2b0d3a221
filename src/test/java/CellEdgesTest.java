/** What cells take, at home and away, and the pages of chains. */
public final class CellEdgesTest {
    private static final Check CHECK = new Check();

    // Length, bytes at home, chain pages.
    private static final int[][] AT_HOME = {{0, 5, 0}, {1, 5, 0}, {3, 5, 0}, {4, 5, 0}, {5, 6, 0}, {99, 100, 0},
        {100, 101, 0}, {101, 9, 1}, {102, 9, 1}, {240, 9, 1}, {241, 9, 2}, {1200, 9, 5}};

    // The same for values that are away. One of up to 4 bytes is never away: it fits where its stub is.
    private static final int[][] AWAY = {{5, 10, 0}, {6, 11, 0}, {99, 104, 0}, {100, 105, 0}, {101, 13, 1},
        {102, 13, 1}, {240, 13, 1}, {241, 13, 2}, {1200, 13, 5}};

    // Length, and what each chain page has of it.
    private static final int[][] CHAINS = {{100}, {101, 101}, {239, 239}, {240, 240}, {241, 240, 1},
        {479, 240, 239}, {480, 240, 240}, {481, 240, 240, 1}, {720, 240, 240, 240}, {721, 240, 240, 240, 1},
        {960, 240, 240, 240, 240}, {961, 240, 240, 240, 240, 1}, {1199, 240, 240, 240, 240, 239},
        {1200, 240, 240, 240, 240, 240}};

    public static void main(String[] args) {
        insertedCells();
        updatedCells();
        cellsThatAreAway();
        stubs();
        noCellTakesLessThanFive();
        insertedChains();
        updatedChains();
        chainsOfValuesThatAreAway();
        CHECK.end();
    }

    private static void dueOnlyCell(SlotFile file, int page, int bytes, int end) {
        int room = 248 - 4 - bytes;
        CHECK.dueCells(file, page, 1, 1, room, end, room / 31, 0);
    }

    private static void insertedCells() {
        CHECK.about("a value of up to 100 bytes its length and 1; a longer one 9, and CHAIN pages (insert)");
        for (int[] row : AT_HOME) {
            SlotFile file = new SlotFile();
            int chain = row[2];
            CHECK.due("insert(" + row[0] + ", 1)", file.insert(row[0], 1), 32 * chain);
            dueOnlyCell(file, chain, row[1], row[1]);
            CHECK.dueWhere(file, 32 * chain, chain, 0, chain, chain == 0 ? -1 : 0);
            CHECK.dueTotals(file, 1, 95 - chain, 1, chain, 0, 1, 0, 0);
        }
    }

    private static void updatedCells() {
        CHECK.about("a value of up to 100 bytes its length and 1; a longer one 9, and CHAIN pages (update)");
        for (int[] row : AT_HOME) {
            SlotFile file = new SlotFile();
            int chain = row[2];
            file.insert(100, 1);
            CHECK.due("update(0, " + row[0] + ", 1)", file.update(0, row[0], 1), true);
            dueOnlyCell(file, 0, row[1], 101);
            CHECK.dueWhere(file, 0, 0, 0, chain, chain == 0 ? -1 : 1);
            CHECK.dueTotals(file, 1, 95 - chain, 1, chain, 0, 2, 0, 0);
        }
    }

    private static void cellsThatAreAway() {
        CHECK.about("and 4 more if it is AWAY");
        for (int[] row : AWAY) {
            SlotFile file = new SlotFile();
            int chain = row[2];
            Scenes.tightHome(file);
            CHECK.due("update(3, " + row[0] + ", 1)", file.update(3, row[0], 1), true);
            dueOnlyCell(file, 1 + chain, row[1], row[1]);
            CHECK.dueSlots(file, 1 + chain, 3);
            CHECK.dueWhere(file, 3, 1 + chain, 0, chain, chain == 0 ? -1 : 1);
            CHECK.dueCells(file, 0, 4, 4, 0, 232, 0, 1);
            CHECK.dueTotals(file, 4, 94 - chain, 2, chain, 1, 5, 0, 0);
        }
    }

    private static void stubs() {
        CHECK.about("a STUB (in a home whose value is away) 5");
        SlotFile file = new SlotFile();
        Scenes.addFullPages(file, 1);
        CHECK.due("33 is at home", file.update(2, 33, 1), true);
        CHECK.dueCells(file, 0, 3, 3, 0, 236, 0, 0);
        CHECK.dueFree(file, 1);
        CHECK.due("34 is away", file.update(2, 34, 1), true);
        CHECK.dueCells(file, 0, 3, 3, 34 - 5, 236, 0, 1);
        CHECK.dueSlots(file, 0, 1, 1, 2);
        dueOnlyCell(file, 1, 39, 39);
    }

    private static void noCellTakesLessThanFive() {
        CHECK.about("No cell takes less than 5");
        for (int length = 0; length <= 4; length++) {
            SlotFile file = new SlotFile();
            Scenes.tightHome(file);
            CHECK.due("update(3, " + length + ", 1)", file.update(3, length, 1), true);
            CHECK.due("length(3)", file.length(3), length);
            CHECK.dueCells(file, 0, 4, 4, 0, 232, 0, 0);
            CHECK.due("4 again", file.update(3, 4, 1), true);
            CHECK.dueCells(file, 0, 4, 4, 0, 232, 0, 0);
            CHECK.due("5 is one too many", file.update(3, 5, 1), true);
            CHECK.dueCells(file, 0, 4, 4, 0, 232, 0, 1);
            dueOnlyCell(file, 1, 10, 10);
            CHECK.due("home in place of the stub", file.update(3, length, 1), true);
            CHECK.dueCells(file, 0, 4, 4, 0, 232, 0, 0);
            CHECK.dueFree(file, 1);
        }
    }

    /** The chain of a row is in the pages from first on, and in no other. */
    private static void dueChainFrom(SlotFile file, int record, int first, int[] row) {
        int count = row.length - 1;
        for (int i = 0; i < count; i++) {
            CHECK.dueChain(file, first + i, i + 1 < count ? first + i + 1 : -1, row[1 + i]);
        }
        CHECK.due("pages of chains with " + row[0], file.total(3), count);
        CHECK.due("where(" + record + ", 2)", file.where(record, 2), count);
        CHECK.due("where(" + record + ", 3)", file.where(record, 3), count == 0 ? -1 : first);
        CHECK.due("length(" + record + ")", file.length(record), row[0]);
        int last = row[0] - 1;
        CHECK.due("the last byte", file.byteAt(record, last), (9 + 7 * last + last / 16) % 256);
        CHECK.due("the byte behind", file.byteAt(record, row[0]), -1);
    }

    private static void insertedChains() {
        CHECK.about("CHAIN pages, each of 240 bytes of it, the last one with what is left (insert)");
        for (int[] row : CHAINS) {
            SlotFile file = new SlotFile();
            int record = file.insert(row[0], 9);
            CHECK.due("insert(" + row[0] + ", 9)", record, 32 * (row.length - 1));
            dueChainFrom(file, record, 0, row);
            CHECK.dueFree(file, row.length);
            file.delete(record);
            CHECK.dueTotals(file, 0, 96, 0, 0, 0, 2, 0, 0);
        }
    }

    private static void updatedChains() {
        CHECK.about("CHAIN pages, each of 240 bytes of it, the last one with what is left (update)");
        for (int[] row : CHAINS) {
            SlotFile file = new SlotFile();
            file.insert(10, 1);
            CHECK.due("update(0, " + row[0] + ", 9)", file.update(0, row[0], 9), true);
            dueChainFrom(file, 0, 1, row);
            CHECK.dueFree(file, row.length);
            file.update(0, 10, 1);
            CHECK.dueTotals(file, 1, 95, 1, 0, 0, 3, 0, 0);
        }
    }

    private static void chainsOfValuesThatAreAway() {
        CHECK.about("CHAIN pages, each of 240 bytes of it, the last one with what is left (away)");
        for (int[] row : CHAINS) {
            SlotFile file = new SlotFile();
            Scenes.tightHome(file);
            CHECK.due("update(3, " + row[0] + ", 9)", file.update(3, row[0], 9), true);
            dueChainFrom(file, 3, 1, row);
            CHECK.due("the value's page is behind", file.where(3, 0), row.length);
            CHECK.dueFree(file, row.length + 1);
            CHECK.due("delete(3)", file.delete(3), row[0]);
            CHECK.dueTotals(file, 3, 95, 1, 0, 0, 6, 0, 0);
        }
    }
}
