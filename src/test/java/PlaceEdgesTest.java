/** Which page and slot a new cell gets. */
public final class PlaceEdgesTest {
    private static final Check CHECK = new Check();

    public static void main(String[] args) {
        classIsRoomByThirtyOne();
        classTimesThirtyOneIsEnough();
        leastClassThatCounts();
        leastNumberOfOneClass();
        firstPageByRoomAlone();
        firstPageByRoomAloneForLongOnes();
        placesAway();
        anEmptySlotStillCountsFour();
        leastSlotWithoutACell();
        leastFreePage();
        lastPageOfAll();
        CHECK.end();
    }

    /** Full pages made to have these rooms, each with three slots and the end 236. */
    private static SlotFile rooms(int... rooms) {
        SlotFile file = new SlotFile();
        addRooms(file, 0, rooms);
        return file;
    }

    private static void addRooms(SlotFile file, int firstPage, int... rooms) {
        Scenes.addFullPages(file, rooms.length);
        for (int i = 0; i < rooms.length; i++) {
            Scenes.makeRoom(file, firstPage + i, rooms[i]);
        }
    }

    /** A page of three slots had nothing between: with a fourth cell it has been compacted. */
    private static void dueFourth(SlotFile file, int page, int room) {
        CHECK.dueCells(file, page, 4, 4, room, 248 - 16 - room, room / 31, 0);
        CHECK.dueSlots(file, page, 1, 1, 1, 1);
        CHECK.due("compacted", file.total(6), 1);
    }

    private static void dueThree(SlotFile file, int page, int room) {
        CHECK.dueCells(file, page, 3, 3, room, 236, room / 31, 0);
    }

    private static void classIsRoomByThirtyOne() {
        CHECK.about("the CLASS of a page is its room / 31 (0 .. 8, cut off)");
        int[][] roomAndClass = {{0, 0}, {1, 0}, {30, 0}, {31, 1}, {61, 1}, {62, 2}, {92, 2}, {93, 3}, {123, 3},
            {124, 4}, {154, 4}, {155, 5}, {185, 5}, {186, 6}, {192, 6}};
        for (int[] row : roomAndClass) {
            CHECK.dueCells(rooms(row[0]), 0, 3, 3, row[0], 236, row[1], 0);
        }
        // A page of cells has at most 239: the class 8 would be that of a page without any.
        int[][] bytesRoomClass = {{58, 186, 6}, {28, 216, 6}, {27, 217, 7}, {6, 238, 7}, {5, 239, 7}};
        for (int[] row : bytesRoomClass) {
            SlotFile file = new SlotFile();
            file.insert(row[0] - 1, 1);
            CHECK.dueCells(file, 0, 1, 1, row[1], row[0], row[2], 0);
        }
    }

    private static void classTimesThirtyOneIsEnough() {
        CHECK.about("whose class times 31 is n + 4 or more");
        for (int c = 1; c <= 3; c++) {
            int need = 31 * c;
            SlotFile file = rooms(need - 1, need + 31, need);
            CHECK.due("all of class " + c, file.insert(need - 5, 1), 2 * 32 + 3);
            dueFourth(file, 2, 0);
            dueThree(file, 0, need - 1);
            dueThree(file, 1, need + 31);
            file = rooms(need - 1, need + 31, need);
            CHECK.due("one more than class " + c, file.insert(need - 4, 1), 32 + 3);
            dueFourth(file, 1, 30);
            dueThree(file, 0, need - 1);
            dueThree(file, 2, need);
        }
    }

    private static void leastClassThatCounts() {
        CHECK.about("those of the least class count");
        SlotFile file = rooms(186, 124, 62, 155);
        CHECK.due("58 and 4 of class 2", file.insert(57, 1), 2 * 32 + 3);
        dueFourth(file, 2, 0);
        file = rooms(186, 124, 62, 155);
        CHECK.due("59 and 4: class 4 is the least", file.insert(58, 1), 32 + 3);
        dueFourth(file, 1, 124 - 63);
        file = rooms(186, 92, 62, 155);
        CHECK.due("59 and 4: class 5 is the least", file.insert(58, 1), 3 * 32 + 3);
        dueFourth(file, 3, 155 - 63);
        file = rooms(186, 92, 62, 192);
        CHECK.due("59 and 4: class 6 is the least, and all", file.insert(58, 1), 3);
        dueFourth(file, 0, 186 - 63);
    }

    private static void leastNumberOfOneClass() {
        CHECK.about("of these the one with the least number");
        for (int c = 1; c <= 3; c++) {
            int need = 31 * c;
            SlotFile file = rooms(need - 1, need + 30, need, need);
            CHECK.due("most room of the class", file.insert(need - 5, 1), 32 + 3);
            dueFourth(file, 1, 30);
            file = rooms(need - 1, need, need + 30, need);
            CHECK.due("least room of the class", file.insert(need - 5, 1), 32 + 3);
            dueFourth(file, 1, 0);
        }
    }

    private static void firstPageByRoomAlone() {
        CHECK.about("if there are none, the first page of all that has room n + 4 or more");
        // What the least cell, one of 36 bytes and the greatest need: just that is no class times 31.
        int[][] lengthNeedMost = {{0, 9, 30}, {4, 9, 30}, {5, 10, 30}, {35, 40, 61}, {100, 105, 123}};
        for (int[] row : lengthNeedMost) {
            int length = row[0];
            int need = row[1];
            int most = row[2];
            SlotFile file = rooms(need - 1, most, need);
            CHECK.due("the first one, not the tightest", file.insert(length, 1), 32 + 3);
            dueFourth(file, 1, most - need);
            file = rooms(need - 1, need - 1, need);
            CHECK.due("just enough", file.insert(length, 1), 2 * 32 + 3);
            dueFourth(file, 2, 0);
            dueThree(file, 0, need - 1);
            file = rooms(need - 1, need - 1, need - 1);
            CHECK.due("one too few", file.insert(length, 1), 3 * 32);
            CHECK.dueCells(file, 3, 1, 1, 248 - need, need - 4, (248 - need) / 31, 0);
            CHECK.due("compacted", file.total(6), 0);
            file = rooms(need - 1, most, need, most + 1);
            CHECK.due("a class goes before", file.insert(length, 1), 3 * 32 + 3);
            dueFourth(file, 3, most + 1 - need);
        }
    }

    private static void firstPageByRoomAloneForLongOnes() {
        CHECK.about("the first page of all that has room n + 4 or more (a long one's 9 and 4)");
        SlotFile file = rooms(12, 30, 13);
        CHECK.due("the first one", file.insert(240, 1), 32 + 3);
        dueFourth(file, 1, 17);
        CHECK.dueChain(file, 3, -1, 240);
        file = rooms(12, 12, 13);
        CHECK.due("just enough", file.insert(240, 1), 2 * 32 + 3);
        dueFourth(file, 2, 0);
        file = rooms(12, 12, 12);
        CHECK.due("one too few: a page behind the chain", file.insert(240, 1), 4 * 32);
        CHECK.dueChain(file, 3, -1, 240);
        CHECK.dueCells(file, 4, 1, 1, 235, 9, 7, 0);
    }

    private static SlotFile homeAndRooms(int... rooms) {
        SlotFile file = new SlotFile();
        Scenes.tightHome(file);
        addRooms(file, 1, rooms);
        return file;
    }

    private static void dueAway(SlotFile file, int length, int page, int room) {
        CHECK.due("update(3, " + length + ", 1)", file.update(3, length, 1), true);
        CHECK.dueWhere(file, 3, page, 3, 0, -1);
        CHECK.dueCells(file, page, 4, 4, room, 248 - 16 - room, room / 31, 0);
        CHECK.dueSlots(file, page, 1, 1, 1, 3);
        CHECK.dueCells(file, 0, 4, 4, 0, 232, 0, 1);
        CHECK.due("compacted", file.total(6), 1);
    }

    private static void placesAway() {
        CHECK.about("A PLACE for a cell of n bytes (away: 53, 1, 4 and 4 are 62)");
        dueAway(homeAndRooms(61, 93, 62), 53, 3, 0);
        dueAway(homeAndRooms(61, 93, 62), 54, 2, 93 - 63);
        dueAway(homeAndRooms(61, 92, 62), 53, 2, 30);
        CHECK.about("A PLACE for a cell of n bytes (away, by room alone: 30, 1, 4 and 4 are 39)");
        dueAway(homeAndRooms(38, 45, 39), 30, 2, 6);
        dueAway(homeAndRooms(38, 38, 39), 30, 3, 0);
        SlotFile file = homeAndRooms(38, 38, 38);
        CHECK.due("update(3, 30, 1)", file.update(3, 30, 1), true);
        CHECK.dueWhere(file, 3, 4, 0, 0, -1);
        CHECK.dueCells(file, 4, 1, 1, 209, 35, 6, 0);
    }

    private static void anEmptySlotStillCountsFour() {
        CHECK.about("room n + 4 or more (a slot that is there is told with 4 too)");
        for (int more = 0; more < 2; more++) {
            SlotFile file = new SlotFile();
            for (int i = 0; i < 27; i++) {
                file.insert(0, i);
            }
            file.delete(5);
            CHECK.dueCells(file, 0, 27, 26, 10, 135, 0, 0);
            CHECK.due("6 and 4, or one more, of 10", file.insert(5 + more, 1), more == 0 ? 5 : 32);
            if (more == 0) {
                CHECK.dueCells(file, 0, 27, 27, 4, 26 * 5 + 6, 0, 0);
            } else {
                CHECK.dueCells(file, 0, 27, 26, 10, 135, 0, 0);
                CHECK.dueCells(file, 1, 1, 1, 248 - 4 - 7, 7, 7, 0);
            }
        }
        CHECK.about("class times 31 is n + 4 or more (a slot that is there is told with 4 too)");
        for (int more = 0; more < 2; more++) {
            SlotFile file = rooms(0, 124);
            file.delete(0);
            file.update(2, 41, 3);
            CHECK.dueCells(file, 0, 3, 2, 93, 101 + 42, 3, 0);
            CHECK.due("89 and 4, or one more, of class 3", file.insert(88 + more, 1), more == 0 ? 0 : 32 + 3);
            if (more == 0) {
                CHECK.dueCells(file, 0, 3, 3, 4, 101 + 42 + 89, 0, 0);
            } else {
                CHECK.dueCells(file, 0, 3, 2, 93, 101 + 42, 3, 0);
                CHECK.dueCells(file, 1, 4, 4, 30, 202, 0, 0);
            }
        }
    }

    private static void leastSlotWithoutACell() {
        CHECK.about("In the page it gets the least slot without a cell");
        SlotFile file = new SlotFile();
        for (int i = 0; i < 6; i++) {
            file.insert(9, i);
        }
        file.delete(0);
        file.delete(4);
        CHECK.dueSlots(file, 0, 0, 1, 1, 1, 0, 1);
        CHECK.due("the first slot", file.insert(9, 1), 0);
        CHECK.dueSlots(file, 0, 1, 1, 1, 1, 0, 1);
        CHECK.due("the one in between", file.insert(9, 1), 4);
        CHECK.dueCells(file, 0, 6, 6, 248 - 24 - 60, 80, 5, 0);
        CHECK.due("the one behind", file.insert(9, 1), 6);
        CHECK.dueCells(file, 0, 7, 7, 248 - 28 - 70, 90, 4, 0);
    }

    private static void leastFreePage() {
        CHECK.about("if there is none either, the least free page");
        SlotFile file = new SlotFile();
        Scenes.addFullPages(file, 5);
        for (int page = 1; page <= 3; page += 2) {
            for (int slot = 0; slot < 3; slot++) {
                file.delete(32 * page + slot);
            }
            CHECK.dueFree(file, page);
        }
        CHECK.due("the first gap", file.insert(100, 1), 32);
        CHECK.dueCells(file, 1, 1, 1, 143, 101, 4, 0);
        file.insert(100, 1);
        file.insert(33, 1);
        CHECK.dueCells(file, 1, 3, 3, 0, 236, 0, 0);
        CHECK.due("the second gap", file.insert(0, 1), 3 * 32);
        CHECK.dueCells(file, 3, 1, 1, 239, 5, 7, 0);
        file.delete(3 * 32);
        CHECK.due("a chain takes the gap, its cell what is behind", file.insert(101, 1), 5 * 32);
        CHECK.dueChain(file, 3, -1, 101);
        CHECK.dueTotals(file, 13, 90, 5, 1, 0, 27, 0, 0);
    }

    private static void lastPageOfAll() {
        CHECK.about("if there is none either, the least free page (the last one of all)");
        SlotFile file = new SlotFile();
        Scenes.addFullPages(file, 95);
        CHECK.due("free pages", file.total(1), 1);
        CHECK.due("insert(0, 1)", file.insert(0, 1), 95 * 32);
        CHECK.dueCells(file, 95, 1, 1, 239, 5, 7, 0);
        CHECK.due("no free page", file.total(1), 0);
        CHECK.due("length", file.length(95 * 32), 0);
    }
}
