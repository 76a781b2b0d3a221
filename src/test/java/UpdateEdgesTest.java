/** Where a record's value is behind an update. */
public final class UpdateEdgesTest {
    private static final Check CHECK = new Check();

    public static void main(String[] args) {
        staysAtHome();
        staysAtHomeAsALongOne();
        goesAway();
        comesHome();
        comesHomeAsALongOne();
        isChangedThere();
        isChangedThereAsALongOne();
        goesToAnotherPlace();
        neverMoreThanOneStub();
        homeComesFirst();
        CHECK.end();
    }

    /** Page 0: 101, 61 and 61 bytes, room 13; page 1: 11 bytes. */
    private static SlotFile twoPages() {
        SlotFile file = new SlotFile();
        file.insert(100, 1);
        file.insert(60, 2);
        file.insert(60, 3);
        file.insert(10, 4);
        CHECK.dueCells(file, 0, 3, 3, 13, 223, 0, 0);
        CHECK.dueCells(file, 1, 1, 1, 233, 11, 7, 0);
        return file;
    }

    private static void staysAtHome() {
        CHECK.about("if its page has room for the new cell in place of the old one, it stays");
        SlotFile file = twoPages();
        CHECK.due("74 bytes in place of 61 and 13", file.update(1, 73, 7), true);
        CHECK.dueWhere(file, 1, 0, 1, 0, -1);
        CHECK.dueCells(file, 0, 3, 3, 0, 101 + 61 + 74, 0, 0);
        CHECK.dueSlots(file, 0, 1, 1, 1);
        CHECK.dueCells(file, 1, 1, 1, 233, 11, 7, 0);
        CHECK.dueTotals(file, 4, 94, 2, 0, 0, 5, 1, 0);
        CHECK.due("length(1)", file.length(1), 73);
    }

    private static void goesAway() {
        CHECK.about("Otherwise the new cell is put AWAY, and a stub stays");
        SlotFile file = twoPages();
        CHECK.due("75 bytes in place of 61 and 13", file.update(1, 74, 7), true);
        CHECK.dueWhere(file, 1, 1, 1, 0, -1);
        CHECK.dueCells(file, 0, 3, 3, 13 + 61 - 5, 223, 2, 1);
        CHECK.dueSlots(file, 0, 1, 2, 1);
        CHECK.dueCells(file, 1, 2, 2, 233 - 4 - 79, 90, 4, 0);
        CHECK.dueSlots(file, 1, 1, 3);
        CHECK.dueTotals(file, 4, 94, 2, 0, 1, 5, 0, 0);
        CHECK.due("length(1)", file.length(1), 74);
        CHECK.due("byteAt(1, 0)", file.byteAt(1, 0), 7);
        CHECK.due("length(33), no record's", file.length(33), -1);
        CHECK.due("next(0)", file.next(0), 1);
        CHECK.due("next(32)", file.next(32), -1);
    }

    /** A tight home whose record 2 is made smaller, so that there is this room. */
    private static SlotFile homeWithRoom(int room) {
        SlotFile file = new SlotFile();
        Scenes.tightHome(file);
        file.update(2, 24 - room, 3);
        CHECK.dueCells(file, 0, 4, 4, room, 232, 0, 0);
        return file;
    }

    private static void staysAtHomeAsALongOne() {
        CHECK.about("if its page has room for the new cell in place of the old one (a long one's 9)");
        SlotFile file = homeWithRoom(4);
        CHECK.due("9 bytes in place of 5 and 4", file.update(3, 240, 7), true);
        CHECK.dueWhere(file, 3, 0, 3, 1, 1);
        CHECK.dueCells(file, 0, 4, 4, 0, 101 + 101 + 21 + 9, 0, 0);
        CHECK.dueTotals(file, 4, 94, 1, 1, 0, 6, 1, 0);
        file = homeWithRoom(3);
        CHECK.due("9 bytes in place of 5 and 3", file.update(3, 240, 7), true);
        CHECK.dueWhere(file, 3, 2, 0, 1, 1);
        CHECK.dueCells(file, 0, 4, 4, 3, 232, 0, 1);
        CHECK.dueCells(file, 2, 1, 1, 231, 13, 7, 0);
        CHECK.dueTotals(file, 4, 93, 2, 1, 1, 6, 0, 0);
    }

    private static void comesHome() {
        CHECK.about("if its home's page has room for the cell in place of the stub, it comes home");
        SlotFile file = twoPages();
        file.update(1, 74, 7);
        CHECK.due("75 bytes in place of 5 and 69", file.update(1, 74, 8), true);
        CHECK.dueWhere(file, 1, 1, 1, 0, -1);
        CHECK.dueCells(file, 0, 3, 3, 69, 223, 2, 1);
        CHECK.dueCells(file, 1, 2, 2, 150, 90, 4, 0);
        CHECK.due("byteAt(1, 0)", file.byteAt(1, 0), 8);
        CHECK.due("74 bytes in place of 5 and 69", file.update(1, 73, 9), true);
        CHECK.dueWhere(file, 1, 0, 1, 0, -1);
        CHECK.dueCells(file, 0, 3, 3, 0, 101 + 61 + 74, 0, 0);
        CHECK.dueSlots(file, 0, 1, 1, 1);
        CHECK.dueCells(file, 1, 1, 1, 233, 90, 7, 0);
        CHECK.dueSlots(file, 1, 1);
        CHECK.due("byteAt(1, 0) now", file.byteAt(1, 0), 9);
        CHECK.dueTotals(file, 4, 94, 2, 0, 0, 7, 1, 0);
    }

    private static void comesHomeAsALongOne() {
        CHECK.about("if its home's page has room for the cell in place of the stub (a long one's 9)");
        for (int room = 3; room <= 4; room++) {
            SlotFile file = homeWithRoom(room);
            file.update(3, 50, 7);
            CHECK.dueWhere(file, 3, 1, 0, 0, -1);
            CHECK.due("9 bytes in place of 5 and " + room, file.update(3, 101, 8), true);
            CHECK.dueWhere(file, 3, room == 4 ? 0 : 1, room == 4 ? 3 : 0, 1, 2);
            CHECK.dueChain(file, 2, -1, 101);
            if (room == 4) {
                CHECK.dueFree(file, 1);
                CHECK.dueCells(file, 0, 4, 4, 0, 232, 0, 0);
            } else {
                CHECK.dueCells(file, 1, 1, 1, 231, 55, 7, 0);
                CHECK.dueCells(file, 0, 4, 4, 3, 232, 0, 1);
            }
        }
    }

    private static void isChangedThere() {
        CHECK.about("otherwise, if the page where it is has room for it there, it is changed there");
        SlotFile file = new SlotFile();
        Scenes.awayInAFullPage(file);
        CHECK.dueCells(file, 1, 3, 3, 0, 236, 0, 0);
        CHECK.due("55 bytes in place of 55", file.update(3, 50, 9), true);
        CHECK.dueWhere(file, 3, 1, 0, 0, -1);
        CHECK.dueCells(file, 1, 3, 3, 0, 236, 0, 0);
        CHECK.due("byteAt(3, 0)", file.byteAt(3, 0), 9);
        file.update(33, 99, 6);
        CHECK.dueCells(file, 1, 3, 3, 1, 236, 0, 0);
        CHECK.due("56 bytes in place of 55 and 1", file.update(3, 51, 8), true);
        CHECK.dueWhere(file, 3, 1, 0, 0, -1);
        CHECK.dueCells(file, 1, 3, 3, 0, 100 + 80 + 56, 0, 0);
        CHECK.dueSlots(file, 1, 3, 1, 1);
        CHECK.dueTotals(file, 6, 94, 2, 0, 1, 10, 1, 0);
    }

    private static void isChangedThereAsALongOne() {
        CHECK.about("otherwise, if the page where it is has room for it there (a long one's 13)");
        for (int more = 2; more <= 3; more++) {
            SlotFile file = new SlotFile();
            Scenes.leastAwayInAFullPage(file);
            file.update(35, 19 - more, 8);
            CHECK.dueCells(file, 1, 4, 4, more, 232, 0, 0);
            CHECK.due("13 bytes in place of 10 and " + more, file.update(3, 240, 9), true);
            CHECK.dueWhere(file, 3, more == 3 ? 1 : 3, 0, 1, 2);
            CHECK.dueChain(file, 2, -1, 240);
            CHECK.dueCells(file, 0, 4, 4, 0, 232, 0, 1);
            if (more == 3) {
                CHECK.dueCells(file, 1, 4, 4, 0, 101 + 101 + 17 + 13, 0, 0);
                CHECK.dueFree(file, 3);
            } else {
                CHECK.dueCells(file, 1, 4, 3, 12, 232, 0, 0);
                CHECK.dueCells(file, 3, 1, 1, 231, 13, 7, 0);
            }
        }
    }

    private static void goesToAnotherPlace() {
        CHECK.about("otherwise it goes to another place away, the old one goes, and the stub leads there");
        SlotFile file = new SlotFile();
        Scenes.awayInAFullPage(file);
        CHECK.due("56 bytes in place of 55", file.update(3, 51, 9), true);
        CHECK.dueWhere(file, 3, 2, 0, 0, -1);
        CHECK.dueCells(file, 0, 4, 4, 0, 232, 0, 1);
        CHECK.dueSlots(file, 0, 1, 1, 1, 2);
        CHECK.dueCells(file, 1, 3, 2, 55, 236, 1, 0);
        CHECK.dueSlots(file, 1, 0, 1, 1);
        CHECK.dueCells(file, 2, 1, 1, 188, 56, 6, 0);
        CHECK.dueSlots(file, 2, 3);
        CHECK.due("length(3)", file.length(3), 51);
        CHECK.due("byteAt(3, 50)", file.byteAt(3, 50), (9 + 350 + 3) % 256);
        CHECK.dueTotals(file, 6, 93, 3, 0, 1, 8, 0, 0);
    }

    private static void neverMoreThanOneStub() {
        CHECK.about("moved out of a page with never more than one stub between");
        SlotFile file = new SlotFile();
        Scenes.awayInAFullPage(file);
        file.update(3, 51, 9);
        // Page 2 gets 101 and 79 bytes beside the 56, page 1 is left with room 55: back there it does not go.
        file.insert(100, 1);
        file.insert(78, 1);
        CHECK.dueCells(file, 2, 3, 3, 0, 236, 0, 0);
        CHECK.due("a third place", file.update(3, 52, 9), true);
        CHECK.dueWhere(file, 3, 3, 0, 0, -1);
        CHECK.dueSlots(file, 2, 0, 1, 1);
        CHECK.due("stubs", file.total(4), 1);
        file.insert(100, 1);
        file.insert(77, 1);
        CHECK.dueCells(file, 3, 3, 3, 0, 236, 0, 0);
        file.delete(33);
        CHECK.dueCells(file, 1, 3, 1, 156, 236, 5, 0);
        CHECK.due("a place where it was before", file.update(3, 53, 9), true);
        CHECK.dueWhere(file, 3, 1, 0, 0, -1);
        CHECK.dueSlots(file, 1, 3, 0, 1);
        CHECK.dueSlots(file, 3, 0, 1, 1);
        CHECK.dueCells(file, 0, 4, 4, 0, 232, 0, 1);
        CHECK.due("stubs still", file.total(4), 1);
        CHECK.due("delete(3)", file.delete(3), 53);
        CHECK.dueSlots(file, 0, 1, 1, 1);
        CHECK.dueSlots(file, 1, 0, 0, 1);
        CHECK.due("no stub", file.total(4), 0);
    }

    private static void homeComesFirst() {
        CHECK.about("it comes home; otherwise it is changed there; otherwise it goes to another place (in this order)");
        SlotFile file = new SlotFile();
        Scenes.awayInAFullPage(file);
        file.delete(0);
        CHECK.dueCells(file, 0, 4, 3, 101, 232, 3, 1);
        CHECK.due("as long as before, and there it has its place", file.update(3, 50, 9), true);
        CHECK.dueWhere(file, 3, 0, 3, 0, -1);
        CHECK.dueCells(file, 1, 3, 2, 55, 236, 1, 0);
        CHECK.dueCells(file, 0, 4, 3, 101 + 5 - 51, 101 + 25 + 51, 1, 0);
        file = new SlotFile();
        Scenes.awayInAFullPage(file);
        file.insert(0, 1);
        CHECK.dueCells(file, 2, 1, 1, 239, 5, 7, 0);
        CHECK.due("less than before: there, not where most room is", file.update(3, 30, 9), true);
        CHECK.dueWhere(file, 3, 1, 0, 0, -1);
        CHECK.dueCells(file, 1, 3, 3, 20, 236, 0, 0);
    }
}
