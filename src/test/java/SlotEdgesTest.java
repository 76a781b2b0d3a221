/** Slots: which there are, when they vanish, and when a page is free. */
public final class SlotEdgesTest {
    private static final Check CHECK = new Check();

    public static void main(String[] args) {
        fourForEachSlotUpToTheLastCell();
        theMostSlots();
        noPageWithoutASlotCounts();
        onlyTheLastSlotHasACell();
        slotsVanishWithTheLastCell();
        slotsVanishWhenAValueComesHome();
        slotsVanishWhenAValueGoesElsewhere();
        aPageWithoutCellsIsFree();
        aValueThatComesHomeLeavesAFreePage();
        CHECK.end();
    }

    private static void fourForEachSlotUpToTheLastCell() {
        CHECK.about("four each from slot 0 up to the last one that has a cell");
        SlotFile file = new SlotFile();
        file.insert(9, 1);
        CHECK.dueCells(file, 0, 1, 1, 248 - 4 - 10, 10, 7, 0);
        file.insert(9, 1);
        file.insert(9, 1);
        CHECK.dueCells(file, 0, 3, 3, 248 - 12 - 30, 30, 6, 0);
        CHECK.dueSlots(file, 0, 1, 1, 1);
        file.delete(0);
        file.delete(1);
        CHECK.dueCells(file, 0, 3, 1, 248 - 12 - 10, 30, 7, 0);
        CHECK.dueSlots(file, 0, 0, 0, 1);
        CHECK.due("length(2)", file.length(2), 9);
    }

    private static SlotFile leastCells(int count) {
        SlotFile file = new SlotFile();
        for (int i = 0; i < count; i++) {
            file.insert(0, i % 256);
        }
        return file;
    }

    private static void theMostSlots() {
        CHECK.about("SLOTS, 0 .. 31 (27 least cells and their slots take 243 of 248 bytes)");
        SlotFile file = leastCells(26);
        CHECK.dueCells(file, 0, 26, 26, 14, 130, 0, 0);
        CHECK.due("the 27th", file.insert(0, 1), 26);
        CHECK.dueCells(file, 0, 27, 27, 5, 135, 0, 0);
        CHECK.due("the 28th", file.insert(0, 1), 32);
        CHECK.dueCells(file, 0, 27, 27, 5, 135, 0, 0);
        CHECK.dueCells(file, 1, 1, 1, 239, 5, 7, 0);
        for (int slot = 0; slot < 32; slot++) {
            CHECK.due("slot(0, " + slot + ")", file.slot(0, slot), slot < 27 ? 1 : -1);
            CHECK.due("length(" + slot + ")", file.length(slot), slot < 27 ? 0 : -1);
        }
        CHECK.due("slot(0, 32)", file.slot(0, 32), -1);
        CHECK.due("next(26)", file.next(26), 32);
    }

    private static void noPageWithoutASlotCounts() {
        CHECK.about("No page with 32 slots that all have cells counts");
        SlotFile file = leastCells(0);
        for (int i = 0; i < 480; i++) {
            CHECK.due("least cell " + i, file.insert(0, 0), 32 * (i / 27) + i % 27);
        }
        CHECK.dueCells(file, 16, 27, 27, 5, 135, 0, 0);
        CHECK.dueCells(file, 17, 21, 21, 248 - 21 * 9, 105, 1, 0);
    }

    private static void onlyTheLastSlotHasACell() {
        CHECK.about("up to the last one that has a cell (the others empty)");
        SlotFile file = leastCells(27);
        for (int record = 0; record < 26; record++) {
            file.delete(record);
        }
        CHECK.dueCells(file, 0, 27, 1, 248 - 108 - 5, 135, 4, 0);
        CHECK.due("slot(0, 25)", file.slot(0, 25), 0);
        CHECK.due("slot(0, 26)", file.slot(0, 26), 1);
        CHECK.due("slot(0, 27)", file.slot(0, 27), -1);
        CHECK.due("next(-1)", file.next(-1), 26);
        CHECK.due("the least slot without a cell", file.insert(100, 1), 0);
        // 248 - 108 - 135 = 5 bytes were left between: compacted.
        CHECK.dueCells(file, 0, 27, 2, 34, 5 + 101, 1, 0);
        file.delete(26);
        CHECK.dueCells(file, 0, 1, 1, 143, 106, 4, 0);
        CHECK.dueSlots(file, 0, 1);
    }

    private static void slotsVanishWithTheLastCell() {
        CHECK.about("Slots vanish with the last cell behind which there is none");
        SlotFile file = new SlotFile();
        for (int i = 0; i < 5; i++) {
            file.insert(9, i);
        }
        file.delete(1);
        file.delete(3);
        CHECK.dueCells(file, 0, 5, 3, 248 - 20 - 30, 50, 6, 0);
        CHECK.dueSlots(file, 0, 1, 0, 1, 0, 1);
        file.delete(4);
        CHECK.dueCells(file, 0, 3, 2, 248 - 12 - 20, 50, 6, 0);
        CHECK.dueSlots(file, 0, 1, 0, 1);
        file.delete(0);
        CHECK.dueCells(file, 0, 3, 1, 248 - 12 - 10, 50, 7, 0);
        CHECK.dueSlots(file, 0, 0, 0, 1);
        CHECK.due("a slot in between is used again", file.insert(9, 1), 0);
        CHECK.due("and the other", file.insert(9, 1), 1);
        CHECK.due("and one that had vanished", file.insert(9, 1), 3);
        CHECK.dueCells(file, 0, 4, 4, 248 - 16 - 40, 80, 6, 0);
    }

    private static void slotsVanishWhenAValueComesHome() {
        CHECK.about("Slots vanish with the last cell behind which there is none (coming home)");
        SlotFile file = new SlotFile();
        Scenes.tightHome(file);
        file.insert(30, 6);
        file.update(3, 50, 5);
        file.update(2, 60, 5);
        CHECK.dueSlots(file, 0, 1, 1, 2, 2);
        CHECK.dueCells(file, 0, 4, 4, 20, 232, 0, 2);
        CHECK.dueSlots(file, 1, 1, 3, 3);
        CHECK.dueCells(file, 1, 3, 3, 248 - 12 - 31 - 55 - 65, 151, 2, 0);
        CHECK.due("home", file.update(3, 20, 5), true);
        CHECK.dueCells(file, 0, 4, 4, 4, 101 + 101 + 5 + 21, 0, 1);
        CHECK.dueSlots(file, 1, 1, 0, 3);
        CHECK.dueCells(file, 1, 3, 2, 248 - 12 - 31 - 65, 151, 4, 0);
        CHECK.due("home too", file.update(2, 8, 5), true);
        CHECK.dueSlots(file, 0, 1, 1, 1, 1);
        CHECK.dueCells(file, 0, 4, 4, 0, 101 + 101 + 21 + 9, 0, 0);
        CHECK.dueSlots(file, 1, 1);
        CHECK.dueCells(file, 1, 1, 1, 248 - 4 - 31, 151, 6, 0);
    }

    private static void slotsVanishWhenAValueGoesElsewhere() {
        CHECK.about("Slots vanish with the last cell behind which there is none (going elsewhere)");
        SlotFile file = new SlotFile();
        Scenes.tightHome(file);
        file.insert(100, 1);
        file.insert(70, 2);
        file.update(3, 50, 5);
        CHECK.dueSlots(file, 1, 1, 1, 3);
        CHECK.dueCells(file, 1, 3, 3, 248 - 12 - 101 - 71 - 55, 227, 0, 0);
        CHECK.due("60 takes 65: one more than 55 and 9", file.update(3, 60, 5), true);
        CHECK.dueSlots(file, 1, 1, 1);
        CHECK.dueCells(file, 1, 2, 2, 248 - 8 - 101 - 71, 227, 2, 0);
        CHECK.dueSlots(file, 2, 3);
        CHECK.dueCells(file, 2, 1, 1, 248 - 4 - 65, 65, 5, 0);
        CHECK.dueCells(file, 0, 4, 4, 0, 232, 0, 1);
    }

    private static void aPageWithoutCellsIsFree() {
        CHECK.about("a page without cells is FREE");
        SlotFile file = new SlotFile();
        file.insert(10, 1);
        file.insert(10, 1);
        file.delete(0);
        CHECK.dueCells(file, 0, 2, 1, 248 - 8 - 11, 22, 7, 0);
        file.delete(1);
        CHECK.dueFree(file, 0);
        CHECK.dueSlots(file, 0);
        CHECK.dueTotals(file, 0, 96, 0, 0, 0, 4, 0, 0);
        CHECK.due("it begins anew", file.insert(20, 1), 0);
        CHECK.dueCells(file, 0, 1, 1, 248 - 4 - 21, 21, 7, 0);
        file.delete(0);
        CHECK.due("or becomes a chain's", file.insert(101, 1), 32);
        CHECK.dueChain(file, 0, -1, 101);
        CHECK.dueSlots(file, 0);
        file.delete(32);
        CHECK.dueFree(file, 0);
        CHECK.dueFree(file, 1);
    }

    private static void aValueThatComesHomeLeavesAFreePage() {
        CHECK.about("a page without cells is FREE (its only value came home, or was deleted)");
        SlotFile file = new SlotFile();
        Scenes.tightHome(file);
        file.update(3, 50, 5);
        CHECK.dueCells(file, 1, 1, 1, 189, 55, 6, 0);
        file.update(3, 4, 5);
        CHECK.dueFree(file, 1);
        CHECK.dueSlots(file, 1);
        CHECK.dueTotals(file, 4, 95, 1, 0, 0, 6, 0, 0);
        file.update(3, 50, 5);
        CHECK.due("away again", file.total(4), 1);
        CHECK.due("delete(3)", file.delete(3), 50);
        CHECK.dueFree(file, 1);
        CHECK.dueCells(file, 0, 3, 3, 9, 232, 0, 0);
        CHECK.dueTotals(file, 3, 95, 1, 0, 0, 8, 0, 0);
    }
}
