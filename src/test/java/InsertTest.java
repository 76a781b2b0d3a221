import java.util.function.Consumer;

/** Promise 2, with what a cell takes, places and chains. */
public final class InsertTest {
    private static final Check CHECK = new Check();

    public static void main(String[] args) {
        cellsTakeWhatTheyShould();
        chainsTakeTheLeastFreePages();
        placesGoByClasses();
        placesByRoomAlone();
        anEmptySlotStillCountsFour();
        theLeastEmptySlotIsTaken();
        refusedWithoutPagesForTheChain();
        refusedWithoutAPlaceBehindTheChain();
        wrongInputs();
        CHECK.end();
    }

    private static void cellsTakeWhatTheyShould() {
        int[][] lengthAndBytes = {{0, 5}, {3, 5}, {4, 5}, {5, 6}, {99, 100}, {100, 101}, {101, 9}, {1200, 9}};
        for (int[] row : lengthAndBytes) {
            SlotFile file = new SlotFile();
            int page = file.insert(row[0], 255) / 32;
            CHECK.due("room with " + row[0], file.page(page, 3), 248 - 4 - row[1]);
            CHECK.due("end with " + row[0], file.page(page, 4), row[1]);
        }
    }

    private static void chainsTakeTheLeastFreePages() {
        int[][] lengthAndPages = {{100, 0}, {101, 1}, {240, 1}, {241, 2}, {480, 2}, {481, 3}, {960, 4}, {961, 5},
            {1200, 5}};
        for (int[] row : lengthAndPages) {
            SlotFile file = new SlotFile();
            int record = file.insert(row[0], 0);
            CHECK.due("home of " + row[0] + " behind its chain", record, 32 * row[1]);
            CHECK.due("chain pages of " + row[0], file.total(3), row[1]);
            int left = row[0];
            for (int page = 0; page < row[1]; page++) {
                CHECK.due("next of " + page, file.page(page, 7), page + 1 == row[1] ? -1 : page + 1);
                CHECK.due("bytes of " + page, file.page(page, 8), Math.min(left, 240));
                left -= 240;
            }
        }
        SlotFile file = new SlotFile();
        file.insert(240, 0);
        file.insert(100, 0);
        file.insert(100, 0);
        file.insert(240, 0);
        file.delete(32);
        CHECK.due("a gap is taken first", file.where(file.insert(700, 1), 3), 0);
        CHECK.due("then what is behind", file.page(0, 7), 3);
    }

    private static void placesGoByClasses() {
        SlotFile file = new SlotFile();
        // Rooms: page 0 has 248 - 8 - 101 - 50 = 89 (class 2), page 1 143 (4), page 2 143 (4).
        CHECK.due("100", file.insert(100, 0), 0);
        CHECK.due("100 again", file.insert(100, 0), 1);
        CHECK.due("100 in a new page", file.insert(100, 0), 32);
        CHECK.due("100 in it too", file.insert(100, 0), 33);
        CHECK.due("100 in a third", file.insert(100, 0), 64);
        file.update(1, 49, 0);
        file.delete(33);
        CHECK.due("room of 0", file.page(0, 3), 89);
        CHECK.due("room of 1", file.page(1, 3), 143);
        CHECK.due("room of 2", file.page(2, 3), 143);
        // 58 and 4 are 62: class 2 is just enough; a byte more asks for class 3 and finds class 4.
        CHECK.due("57 bytes in class 2", file.insert(57, 0), 2);
        file.delete(2);
        CHECK.due("58 bytes in class 4, the least page", file.insert(58, 0), 33);
        sameClassGoesByNumber();
    }

    private static void sameClassGoesByNumber() {
        SlotFile file = new SlotFile();
        file.insert(100, 0);
        file.insert(100, 0);
        file.insert(100, 0);
        file.insert(100, 0);
        file.delete(1);
        file.update(33, 10, 0);
        CHECK.due("room 143", file.page(0, 3), 143);
        CHECK.due("room 128", file.page(1, 3), 128);
        CHECK.due("one class", file.page(0, 5) + file.page(1, 5), 8);
        CHECK.due("the least number, not the least room", file.insert(50, 0), 1);
    }

    private static void placesByRoomAlone() {
        SlotFile file = new SlotFile();
        file.insert(100, 0);
        CHECK.due("room", file.page(0, 3), 143);
        file.insert(100, 0);
        CHECK.due("room 38", file.page(0, 3), 38);
        file.insert(100, 0);
        file.insert(100, 0);
        CHECK.due("33 and 1 and 4 in the first page of room 38", file.insert(33, 0), 2);
        CHECK.due("none is left there", file.page(0, 3), 0);
        CHECK.due("34 needs more than 38", file.insert(34, 0), 64);
        CHECK.due("its class 6 goes before the room 38 of page 1", file.insert(33, 0), 65);
    }

    private static void anEmptySlotStillCountsFour() {
        SlotFile file = new SlotFile();
        for (int i = 0; i < 27; i++) {
            file.insert(0, i);
        }
        CHECK.due("room", file.page(0, 3), 5);
        file.delete(5);
        CHECK.due("room 10 with slot 5 empty", file.page(0, 3), 10);
        CHECK.due("7 takes 8 and 4: not there", file.insert(7, 0), 32);
        file.delete(32);
        CHECK.due("5 takes 6 and 4: just there", file.insert(5, 0), 5);
    }

    private static void theLeastEmptySlotIsTaken() {
        SlotFile file = new SlotFile();
        for (int i = 0; i < 6; i++) {
            file.insert(10, i);
        }
        file.delete(3);
        file.delete(1);
        CHECK.due("slot 1", file.insert(10, 0), 1);
        CHECK.due("slot 3", file.insert(10, 0), 3);
        CHECK.due("slot 6", file.insert(10, 0), 6);
    }

    private static void leaveTwoFreePages(SlotFile file) {
        for (int i = 0; i < 18; i++) {
            file.insert(1200, i);
        }
        // 90 pages of chains and one of cells, which has room for one long value's cell more.
        file.insert(240, 0);
        file.insert(240, 0);
    }

    private static void refusedWithoutPagesForTheChain() {
        Consumer<SlotFile> scene = InsertTest::leaveTwoFreePages;
        SlotFile file = new SlotFile();
        scene.accept(file);
        CHECK.due("free pages", file.total(1), 2);
        CHECK.due("three pages of two", file.insert(481, 0), SlotFile.NONE);
        CHECK.due("no change", file.total(5), 20);
        CHECK.dueSame("a refused insert", scene, scene.andThen(x -> x.insert(481, 0)));
        CHECK.due("two of two, with a place", file.insert(480, 0) >= 0, true);
        CHECK.due("none is free", file.total(1), 0);
        CHECK.due("a short one has a place", file.insert(0, 0) >= 0, true);
    }

    private static void refusedWithoutAPlaceBehindTheChain() {
        Consumer<SlotFile> scene = x -> {
            for (int i = 0; i < 95; i++) {
                x.insert(100, 0);
                x.insert(100, 0);
                x.insert(33, 0);
            }
        };
        SlotFile file = new SlotFile();
        scene.accept(file);
        CHECK.due("pages of cells without room", file.total(2), 95);
        CHECK.due("the chain would take the last page", file.insert(101, 0), SlotFile.NONE);
        CHECK.dueSame("an insert without a place", scene, scene.andThen(x -> x.insert(101, 0)));
        CHECK.due("the last page for a cell", file.insert(100, 0), 95 * 32);
        CHECK.due("and again", file.insert(100, 0), 95 * 32 + 1);
        CHECK.due("no place", file.insert(100, 0), SlotFile.NONE);
        CHECK.due("a place by room alone", file.insert(33, 0), 95 * 32 + 2);
        CHECK.due("no place for the least", file.insert(0, 0), SlotFile.NONE);
    }

    private static void wrongInputs() {
        Consumer<SlotFile> scene = x -> {
            x.insert(40, 1);
            x.insert(300, 2);
        };
        int[][] wrong = {{-1, 0}, {1201, 0}, {0, -1}, {0, 256}, {Integer.MIN_VALUE, 5}, {Integer.MAX_VALUE, 5},
            {5, Integer.MIN_VALUE}, {5, Integer.MAX_VALUE}};
        for (int[] row : wrong) {
            CHECK.dueThrowAndSame("insert(" + row[0] + ", " + row[1] + ")", IllegalArgumentException.class, scene,
                x -> x.insert(row[0], row[1]));
        }
    }
}
