/** Where a page's end is: cells that stay or are put there, and compacting. */
public final class EndEdgesTest {
    private static final Check CHECK = new Check();

    public static void main(String[] args) {
        newCellsAreAtTheEnd();
        staysIfItTakesNoMore();
        whatItTakesLessIsUnused();
        stubsAndTheirHomes();
        cellsThatAreAway();
        compactedForAChangedCell();
        compactedForANewSlot();
        notForASlotThatIsThere();
        compactedForALongOne();
        compactedToComeHome();
        compactedWhereItIsAway();
        compactedForAPlaceAway();
        slotsThatVanishGiveTheirBytes();
        nothingIsBetween();
        CHECK.end();
    }

    private static SlotFile with(int... lengths) {
        SlotFile file = new SlotFile();
        for (int length : lengths) {
            file.insert(length, 1);
        }
        return file;
    }

    private static void newCellsAreAtTheEnd() {
        CHECK.about("a new cell is put there, and where it was before stays unused");
        SlotFile file = with(10, 20);
        CHECK.dueCells(file, 0, 2, 2, 208, 32, 6, 0);
        file.delete(1);
        CHECK.dueCells(file, 0, 1, 1, 233, 32, 7, 0);
        file.insert(5, 1);
        CHECK.dueCells(file, 0, 2, 2, 223, 38, 7, 0);
        CHECK.due("compacted", file.total(6), 0);
    }

    private static void staysIfItTakesNoMore() {
        CHECK.about("A cell that is changed and takes no more than before stays where it is");
        // From which length to which, with how many bytes; the end behind it, as it is or with the new cell.
        int[][] rows = {{50, 50, 51, 51}, {50, 49, 50, 51}, {50, 51, 52, 51 + 52}, {0, 4, 5, 5}, {4, 0, 5, 5},
            {4, 5, 6, 5 + 6}, {5, 4, 5, 6}, {8, 101, 9, 9}, {7, 101, 9, 8 + 9}, {9, 101, 9, 10}, {101, 8, 9, 9},
            {101, 9, 10, 9 + 10}, {101, 1200, 9, 9}, {1200, 101, 9, 9}, {100, 101, 9, 101}, {101, 100, 101, 9 + 101},
            {99, 100, 101, 100 + 101}, {100, 100, 101, 101}};
        for (int[] row : rows) {
            SlotFile file = new SlotFile();
            int record = file.insert(row[0], 1);
            CHECK.due("from " + row[0] + " to " + row[1], file.update(record, row[1], 2), true);
            int room = 248 - 4 - row[2];
            CHECK.dueCells(file, record / 32, 1, 1, room, row[3], room / 31, 0);
            CHECK.due("its first byte", file.byteAt(record, 0), row[1] == 0 ? -1 : 2);
            CHECK.due("compacted", file.total(6), 0);
        }
    }

    private static void whatItTakesLessIsUnused() {
        CHECK.about("what it takes less is unused");
        SlotFile file = with(50, 50);
        file.update(0, 20, 1);
        CHECK.dueCells(file, 0, 2, 2, 240 - 21 - 51, 102, 5, 0);
        file.update(0, 20, 2);
        CHECK.dueCells(file, 0, 2, 2, 240 - 21 - 51, 102, 5, 0);
        file.update(0, 21, 1);
        CHECK.dueCells(file, 0, 2, 2, 240 - 22 - 51, 102 + 22, 5, 0);
    }

    private static void stubsAndTheirHomes() {
        CHECK.about("A cell that is changed and takes no more than before stays where it is (stubs)");
        SlotFile file = new SlotFile();
        Scenes.tightHome(file);
        file.update(3, 50, 5);
        CHECK.dueCells(file, 0, 4, 4, 0, 232, 0, 1);
        file.update(3, 4, 5);
        CHECK.dueCells(file, 0, 4, 4, 0, 232, 0, 0);
        CHECK.due("compacted", file.total(6), 0);
        file.update(2, 23, 3);
        file.update(3, 50, 5);
        CHECK.dueCells(file, 0, 4, 4, 1, 232, 0, 1);
        CHECK.due("6 bytes are one more than the stub's", file.update(3, 5, 5), true);
        CHECK.dueCells(file, 0, 4, 4, 0, 101 + 101 + 24 + 6, 0, 0);
        CHECK.due("compacted once", file.total(6), 1);
    }

    private static void cellsThatAreAway() {
        CHECK.about("A cell that is changed and takes no more than before stays where it is (away)");
        int[][] lengthBytesEnd = {{50, 55, 55}, {49, 54, 55}, {51, 56, 55 + 56}, {101, 13, 55}};
        for (int[] row : lengthBytesEnd) {
            SlotFile file = new SlotFile();
            Scenes.tightHome(file);
            file.update(3, 50, 5);
            CHECK.due("to " + row[0], file.update(3, row[0], 6), true);
            int room = 248 - 4 - row[1];
            CHECK.dueCells(file, 1, 1, 1, room, row[2], room / 31, 0);
            CHECK.dueCells(file, 0, 4, 4, 0, 232, 0, 1);
            CHECK.due("compacted", file.total(6), 0);
        }
        SlotFile file = new SlotFile();
        Scenes.tightHome(file);
        file.update(3, 8, 5);
        CHECK.due("from 13 to 13", file.update(3, 240, 5), true);
        CHECK.dueCells(file, 1, 1, 1, 231, 13, 7, 0);
        CHECK.due("from 13 to 14", file.update(3, 9, 5), true);
        CHECK.dueCells(file, 1, 1, 1, 230, 13 + 14, 7, 0);
    }

    private static void compactedForAChangedCell() {
        CHECK.about("are not there between the end and the slots, the page is COMPACTED before (changed)");
        // 248 - 8 - 140 = 100 bytes are between; its slot stays, though it is the last one.
        SlotFile file = with(99, 39);
        file.update(1, 99, 1);
        CHECK.dueCells(file, 0, 2, 2, 40, 240, 1, 0);
        CHECK.due("100 are there", file.total(6), 0);
        file = with(99, 39);
        file.update(1, 100, 1);
        CHECK.dueCells(file, 0, 2, 2, 39, 100 + 101, 1, 0);
        CHECK.due("101 are not", file.total(6), 1);
        file = with(39, 99);
        file.update(0, 99, 1);
        CHECK.dueCells(file, 0, 2, 2, 40, 240, 1, 0);
        CHECK.due("100 are there for the first one", file.total(6), 0);
        file = with(39, 99);
        file.update(0, 100, 1);
        CHECK.dueCells(file, 0, 2, 2, 39, 100 + 101, 1, 0);
        CHECK.due("101 are not for it", file.total(6), 1);
    }

    private static void compactedForANewSlot() {
        CHECK.about("and four more if it has a slot behind the last one, are not there");
        // 248 - 8 - 200 = 40 bytes are between, and the room is 90.
        SlotFile file = with(99, 99);
        file.update(0, 49, 1);
        CHECK.due("36 and 4", file.insert(35, 1), 2);
        CHECK.dueCells(file, 0, 3, 3, 50, 236, 1, 0);
        CHECK.due("are there", file.total(6), 0);
        file = with(99, 99);
        file.update(0, 49, 1);
        CHECK.due("37 and 4", file.insert(36, 1), 2);
        CHECK.dueCells(file, 0, 3, 3, 49, 50 + 100 + 37, 1, 0);
        CHECK.due("are not", file.total(6), 1);
    }

    private static void notForASlotThatIsThere() {
        CHECK.about("and four more if it has a slot behind the last one (it has one before it)");
        // 248 - 12 - 221 = 15 bytes are between, and slot 0 is empty.
        SlotFile file = with(99, 99, 20);
        file.delete(0);
        CHECK.due("15", file.insert(14, 1), 0);
        CHECK.dueCells(file, 0, 3, 3, 100, 236, 3, 0);
        CHECK.due("are there", file.total(6), 0);
        file = with(99, 99, 20);
        file.delete(0);
        CHECK.due("16", file.insert(15, 1), 0);
        CHECK.dueCells(file, 0, 3, 3, 99, 100 + 21 + 16, 3, 0);
        CHECK.due("are not", file.total(6), 1);
    }

    private static void compactedForALongOne() {
        CHECK.about("its bytes, and four more, are not there (a long one's 9)");
        SlotFile file = with(99, 99, 22);
        CHECK.dueCells(file, 0, 3, 3, 13, 223, 0, 0);
        CHECK.due("9 and 4", file.insert(101, 1), 3);
        CHECK.dueCells(file, 0, 4, 4, 0, 232, 0, 0);
        CHECK.due("are there", file.total(6), 0);
        file = with(99, 99, 23);
        file.update(0, 98, 1);
        CHECK.dueCells(file, 0, 3, 3, 13, 224, 0, 0);
        CHECK.due("9 and 4, one more than between", file.insert(101, 1), 3);
        CHECK.dueCells(file, 0, 4, 4, 0, 99 + 100 + 24 + 9, 0, 0);
        CHECK.due("are not", file.total(6), 1);
    }

    /** Page 0: 100 bytes, a stub, 61 bytes; the end is 222, and 14 bytes are between. */
    private static SlotFile oneAway() {
        SlotFile file = with(99, 60, 60);
        file.update(1, 80, 1);
        CHECK.dueCells(file, 0, 3, 3, 70, 222, 2, 1);
        return file;
    }

    private static void compactedToComeHome() {
        CHECK.about("are not there between the end and the slots, the page is COMPACTED before (coming home)");
        SlotFile file = oneAway();
        file.update(1, 4, 1);
        CHECK.dueCells(file, 0, 3, 3, 70, 222, 2, 0);
        CHECK.due("5 stay where the stub was", file.total(6), 0);
        file = oneAway();
        file.update(1, 13, 1);
        CHECK.dueCells(file, 0, 3, 3, 61, 236, 1, 0);
        CHECK.due("14 are there", file.total(6), 0);
        file = oneAway();
        file.update(1, 14, 1);
        CHECK.dueCells(file, 0, 3, 3, 60, 100 + 61 + 15, 1, 0);
        CHECK.due("15 are not", file.total(6), 1);
        CHECK.dueFree(file, 1);
    }

    private static void compactedWhereItIsAway() {
        CHECK.about("are not there between the end and the slots, the page is COMPACTED before (changed away)");
        for (int more = 0; more < 2; more++) {
            SlotFile file = new SlotFile();
            Scenes.tightHome(file);
            file.update(3, 50, 5);
            file.insert(100, 6);
            CHECK.dueCells(file, 1, 2, 2, 84, 156, 2, 0);
            // 248 - 8 - 156 = 84 bytes are between.
            CHECK.due("update(3, 79 or 80, 7)", file.update(3, 79 + more, 7), true);
            CHECK.dueCells(file, 1, 2, 2, 55 - more, more == 0 ? 240 : 101 + 85, 1, 0);
            CHECK.dueSlots(file, 1, 3, 1);
            CHECK.due("compacted", file.total(6), more);
        }
    }

    private static void compactedForAPlaceAway() {
        CHECK.about("are not there between the end and the slots, the page is COMPACTED before (a place away)");
        for (int more = 0; more < 2; more++) {
            SlotFile file = new SlotFile();
            Scenes.tightHome(file);
            file.insert(99, 1);
            file.insert(99, 1);
            file.update(32, 49, 1);
            // 40 bytes are between: 31, 1, 4 and a new slot's 4.
            CHECK.due("update(3, 31 or 32, 7)", file.update(3, 31 + more, 7), true);
            CHECK.dueCells(file, 1, 3, 3, 50 - more, more == 0 ? 236 : 50 + 100 + 37, 1, 0);
            CHECK.dueSlots(file, 1, 1, 1, 3);
            CHECK.due("compacted for a new slot", file.total(6), more);
        }
        for (int more = 0; more < 2; more++) {
            SlotFile file = new SlotFile();
            Scenes.tightHome(file);
            file.insert(99, 1);
            file.insert(99, 1);
            file.insert(20, 1);
            file.delete(32);
            // 15 bytes are between: 10, 1 and 4.
            CHECK.due("update(3, 10 or 11, 7)", file.update(3, 10 + more, 7), true);
            CHECK.dueCells(file, 1, 3, 3, 100 - more, more == 0 ? 236 : 100 + 21 + 16, 3, 0);
            CHECK.dueSlots(file, 1, 3, 1, 1);
            CHECK.due("compacted for a slot that is there", file.total(6), more);
        }
    }

    private static void slotsThatVanishGiveTheirBytes() {
        CHECK.about("between the end and the slots (two have vanished)");
        SlotFile file = with(99, 99, 25, 4);
        CHECK.dueCells(file, 0, 4, 4, 1, 231, 0, 0);
        file.delete(3);
        file.delete(2);
        CHECK.dueCells(file, 0, 2, 2, 40, 231, 1, 0);
        CHECK.due("5 and 4", file.insert(4, 1), 2);
        CHECK.dueCells(file, 0, 3, 3, 31, 236, 1, 0);
        CHECK.due("are there", file.total(6), 0);
        file = with(99, 99, 26, 4);
        file.delete(3);
        file.delete(2);
        CHECK.dueCells(file, 0, 2, 2, 40, 232, 1, 0);
        CHECK.due("5 and 4, one more than between", file.insert(4, 1), 2);
        CHECK.dueCells(file, 0, 3, 3, 31, 100 + 100 + 5, 1, 0);
        CHECK.due("are not", file.total(6), 1);
    }

    private static void nothingIsBetween() {
        CHECK.about("the end is what cells take (without the one that was taken out)");
        SlotFile file = new SlotFile();
        Scenes.addFullPages(file, 1);
        CHECK.dueCells(file, 0, 3, 3, 0, 236, 0, 0);
        file.update(2, 32, 3);
        CHECK.dueCells(file, 0, 3, 3, 1, 236, 0, 0);
        CHECK.due("as before, in place of itself", file.update(2, 33, 3), true);
        CHECK.dueCells(file, 0, 3, 3, 0, 101 + 101 + 34, 0, 0);
        CHECK.due("compacted", file.total(6), 1);
        file.delete(0);
        CHECK.dueCells(file, 0, 3, 2, 101, 236, 3, 0);
        CHECK.due("the least into slot 0", file.insert(0, 1), 0);
        CHECK.dueCells(file, 0, 3, 3, 96, 101 + 34 + 5, 3, 0);
        CHECK.due("compacted twice", file.total(6), 2);
    }
}
