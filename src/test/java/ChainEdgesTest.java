/** Which pages chains take, and when they are free again. */
public final class ChainEdgesTest {
    private static final Check CHECK = new Check();

    public static void main(String[] args) {
        leastFreePagesOneByOne();
        beforeAPlaceIsLookedFor();
        beforeAPlaceAwayIsLookedFor();
        ownChainIsNotFreeYet();
        ownChainIsNotFreeYetForAPlace();
        ownChainIsNotFreeYetForOneThatIsAway();
        ownPageIsNotFreeYetWhenItComesHome();
        freedByADelete();
        CHECK.end();
    }

    /** Six full pages, of which 1 and 3 are free again. */
    private static SlotFile withGaps() {
        SlotFile file = new SlotFile();
        Scenes.addFullPages(file, 6);
        for (int slot = 0; slot < 3; slot++) {
            file.delete(32 + slot);
            file.delete(3 * 32 + slot);
        }
        CHECK.dueFree(file, 1);
        CHECK.dueFree(file, 3);
        return file;
    }

    private static void leastFreePagesOneByOne() {
        CHECK.about("Chains take the least free pages, one by one");
        SlotFile file = withGaps();
        CHECK.due("insert(721, 9)", file.insert(721, 9), 8 * 32);
        CHECK.dueChain(file, 1, 3, 240);
        CHECK.dueChain(file, 3, 6, 240);
        CHECK.dueChain(file, 6, 7, 240);
        CHECK.dueChain(file, 7, -1, 1);
        CHECK.dueCells(file, 8, 1, 1, 235, 9, 7, 0);
        CHECK.dueWhere(file, 8 * 32, 8, 0, 4, 1);
        CHECK.dueTotals(file, 13, 87, 5, 4, 0, 25, 0, 0);
        file = withGaps();
        CHECK.due("update(0, 241, 9)", file.update(0, 241, 9), true);
        CHECK.dueChain(file, 1, 3, 240);
        CHECK.dueChain(file, 3, -1, 1);
        CHECK.dueFree(file, 6);
        CHECK.dueWhere(file, 0, 0, 0, 2, 1);
        CHECK.dueCells(file, 0, 3, 3, 92, 236, 2, 0);
    }

    private static void beforeAPlaceIsLookedFor() {
        CHECK.about("before a place is looked for");
        int[][] lengthAndPage = {{100, 1}, {101, 3}, {240, 3}, {241, 6}, {480, 6}, {481, 7}};
        for (int[] row : lengthAndPage) {
            SlotFile file = withGaps();
            CHECK.due("insert(" + row[0] + ", 9)", file.insert(row[0], 9), 32 * row[1]);
            CHECK.due("it is there", file.length(32 * row[1]), row[0]);
            CHECK.due("first of its chain", file.where(32 * row[1], 3), row[0] == 100 ? -1 : 1);
        }
        SlotFile file = withGaps();
        Scenes.makeRoom(file, 4, 13);
        CHECK.due("a place in a page of cells", file.insert(240, 9), 4 * 32 + 3);
        CHECK.dueChain(file, 1, -1, 240);
        CHECK.dueFree(file, 3);
        CHECK.dueCells(file, 4, 4, 4, 0, 232, 0, 0);
    }

    private static void beforeAPlaceAwayIsLookedFor() {
        CHECK.about("before a place is looked for (away)");
        SlotFile file = new SlotFile();
        Scenes.tightHome(file);
        CHECK.due("update(3, 480, 9)", file.update(3, 480, 9), true);
        CHECK.dueChain(file, 1, 2, 240);
        CHECK.dueChain(file, 2, -1, 240);
        CHECK.dueWhere(file, 3, 3, 0, 2, 1);
        CHECK.dueCells(file, 3, 1, 1, 231, 13, 7, 0);
        CHECK.dueSlots(file, 0, 1, 1, 1, 2);
        CHECK.dueTotals(file, 4, 92, 2, 2, 1, 5, 0, 0);
    }

    private static void ownChainIsNotFreeYet() {
        CHECK.about("a page that its change will free is not free yet (its own chain, for the new one)");
        SlotFile file = new SlotFile();
        file.insert(10, 1);
        file.update(0, 241, 1);
        CHECK.dueWhere(file, 0, 0, 0, 2, 1);
        file.update(0, 241, 2);
        CHECK.dueWhere(file, 0, 0, 0, 2, 3);
        CHECK.dueFree(file, 1);
        CHECK.dueFree(file, 2);
        CHECK.dueChain(file, 3, 4, 240);
        CHECK.dueChain(file, 4, -1, 1);
        file.update(0, 481, 3);
        CHECK.dueChain(file, 1, 2, 240);
        CHECK.dueChain(file, 2, 5, 240);
        CHECK.dueChain(file, 5, -1, 1);
        CHECK.dueFree(file, 3);
        CHECK.dueFree(file, 4);
        CHECK.dueTotals(file, 1, 92, 1, 3, 0, 4, 0, 0);
    }

    private static void ownChainIsNotFreeYetForAPlace() {
        CHECK.about("a page that its change will free is not free yet (its own chain, for a place away)");
        SlotFile file = new SlotFile();
        CHECK.due("insert(101, 1)", file.insert(101, 1), 32);
        file.insert(100, 1);
        file.insert(100, 1);
        CHECK.due("insert(20, 1)", file.insert(20, 1), 35);
        CHECK.dueCells(file, 1, 4, 4, 0, 232, 0, 0);
        CHECK.due("9 bytes in place of 9", file.update(32, 8, 2), true);
        CHECK.dueFree(file, 0);
        file.update(32, 101, 1);
        CHECK.dueChain(file, 0, -1, 101);
        CHECK.due("10 bytes in place of 9", file.update(32, 9, 2), true);
        CHECK.dueWhere(file, 32, 2, 0, 0, -1);
        CHECK.dueFree(file, 0);
        CHECK.dueCells(file, 2, 1, 1, 230, 14, 7, 0);
        CHECK.dueCells(file, 1, 4, 4, 4, 232, 0, 1);
    }

    private static void ownChainIsNotFreeYetForOneThatIsAway() {
        CHECK.about("a page that its change will free is not free yet (the chain of a value that is away)");
        SlotFile file = new SlotFile();
        Scenes.tightHome(file);
        file.update(3, 240, 1);
        CHECK.dueWhere(file, 3, 2, 0, 1, 1);
        file.update(3, 240, 2);
        CHECK.dueWhere(file, 3, 2, 0, 1, 3);
        CHECK.dueFree(file, 1);
        CHECK.dueChain(file, 3, -1, 240);
        CHECK.dueCells(file, 2, 1, 1, 231, 13, 7, 0);
        file.update(3, 101, 3);
        CHECK.dueWhere(file, 3, 2, 0, 1, 1);
        CHECK.dueFree(file, 3);
        CHECK.dueTotals(file, 4, 93, 2, 1, 1, 7, 0, 0);
    }

    private static void ownPageIsNotFreeYetWhenItComesHome() {
        CHECK.about("a page that its change will free is not free yet (where it was away)");
        SlotFile file = new SlotFile();
        Scenes.tightHome(file);
        file.update(3, 50, 1);
        file.update(2, 20, 3);
        CHECK.dueCells(file, 0, 4, 4, 4, 232, 0, 1);
        CHECK.dueCells(file, 1, 1, 1, 189, 55, 6, 0);
        CHECK.due("9 bytes in place of 5 and 4", file.update(3, 241, 2), true);
        CHECK.dueWhere(file, 3, 0, 3, 2, 2);
        CHECK.dueFree(file, 1);
        CHECK.dueChain(file, 2, 3, 240);
        CHECK.dueChain(file, 3, -1, 1);
        CHECK.dueCells(file, 0, 4, 4, 0, 232, 0, 0);
        CHECK.due("the page is free now", file.insert(0, 1), 32);
    }

    private static void freedByADelete() {
        CHECK.about("DELETING takes both cells and chains");
        SlotFile file = new SlotFile();
        Scenes.tightHome(file);
        file.update(3, 1200, 1);
        CHECK.dueWhere(file, 3, 6, 0, 5, 1);
        CHECK.due("delete(3)", file.delete(3), 1200);
        for (int page = 1; page <= 6; page++) {
            CHECK.dueFree(file, page);
        }
        CHECK.dueCells(file, 0, 3, 3, 9, 232, 0, 0);
        CHECK.dueTotals(file, 3, 95, 1, 0, 0, 6, 0, 0);
        CHECK.due("they are free at once", file.insert(1200, 1), 6 * 32);
    }
}
