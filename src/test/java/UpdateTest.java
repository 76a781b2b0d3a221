import java.util.NoSuchElementException;
import java.util.function.Consumer;

/** Promise 3, with stubs, ends and compacting. */
public final class UpdateTest {
    private static final Check CHECK = new Check();

    public static void main(String[] args) {
        staysWhereItIsIfNoLarger();
        isPutAtTheEndIfLarger();
        isCompactedOnlyWhenItMust();
        goesAwayAndLeavesAStub();
        comesHome();
        isChangedWhereItIsAway();
        goesToAnotherPlaceAway();
        freesTheOldChainBehindTheNewOne();
        aPageThatWillBeFreeIsNotFreeYet();
        refused();
        wrongInputs();
        CHECK.end();
    }

    private static void staysWhereItIsIfNoLarger() {
        SlotFile file = new SlotFile();
        file.insert(50, 1);
        file.insert(50, 2);
        CHECK.due("update(0, 50, 9)", file.update(0, 50, 9), true);
        CHECK.due("seed", file.byteAt(0, 0), 9);
        CHECK.due("end", file.page(0, 4), 102);
        file.update(0, 20, 9);
        CHECK.due("end with less", file.page(0, 4), 102);
        CHECK.due("room with less", file.page(0, 3), 248 - 8 - 51 - 21);
        // What it took before counts, not where it might have grown to.
        file.update(0, 30, 9);
        CHECK.due("end with more than the last time", file.page(0, 4), 102 + 31);
        file.update(0, 500, 9);
        CHECK.due("a long one takes only 9", file.page(0, 4), 133);
        CHECK.due("room with it", file.page(0, 3), 248 - 8 - 51 - 9);
    }

    private static void isPutAtTheEndIfLarger() {
        SlotFile file = new SlotFile();
        file.insert(10, 1);
        CHECK.due("update(0, 11, 1)", file.update(0, 11, 1), true);
        CHECK.due("even the last one moves", file.page(0, 4), 11 + 12);
        CHECK.due("room", file.page(0, 3), 248 - 4 - 12);
        CHECK.due("compacted", file.total(6), 0);
    }

    private static void isCompactedOnlyWhenItMust() {
        SlotFile file = new SlotFile();
        file.insert(99, 1);
        file.insert(39, 1);
        // The end is 140 of 240: 100 bytes are just there.
        file.update(1, 98, 1);
        CHECK.due("99 of 100", file.page(0, 4), 239);
        CHECK.due("not compacted", file.total(6), 0);
        file.update(1, 97, 1);
        file.update(1, 98, 1);
        CHECK.due("compacted without the one taken out", file.page(0, 4), 100 + 99);
        CHECK.due("once", file.total(6), 1);
        file.update(1, 30, 1);
        file.insert(4, 1);
        CHECK.due("with a new slot", file.page(0, 4), 204);
        file.update(2, 31, 1);
        CHECK.due("32 of 248 - 12 - 204: just there", file.page(0, 4), 236);
        CHECK.due("still once", file.total(6), 1);
        file.insert(4, 1);
        CHECK.due("no byte for it: compacted", file.page(0, 4), 100 + 31 + 32 + 5);
        CHECK.due("twice", file.total(6), 2);
        newSlotNeedsFourMore();
    }

    private static void newSlotNeedsFourMore() {
        SlotFile file = new SlotFile();
        file.insert(99, 1);
        file.insert(99, 1);
        file.insert(20, 1);
        CHECK.due("end", file.page(0, 4), 221);
        file.update(0, 10, 1);
        // 236 - 221 = 15 are between: a cell of 12 has them, but not with a slot behind the last one.
        file.insert(11, 1);
        CHECK.due("compacted for the slot's sake", file.page(0, 4), 11 + 100 + 21 + 12);
        SlotFile other = new SlotFile();
        other.insert(99, 1);
        other.insert(99, 1);
        other.insert(20, 1);
        other.delete(0);
        other.insert(11, 1);
        CHECK.due("not for a slot that is there", other.page(0, 4), 221 + 12);
        CHECK.due("compacted", other.total(6), 0);
    }

    private static void twoPages(SlotFile x) {
        x.insert(100, 1);
        x.insert(60, 2);
        x.insert(60, 3);
        x.insert(10, 4);
        // Page 0 has room 248 - 12 - 101 - 61 - 61 = 13, page 1 has room 248 - 4 - 11 = 233.
    }

    private static void goesAwayAndLeavesAStub() {
        SlotFile file = new SlotFile();
        twoPages(file);
        CHECK.due("room of 0", file.page(0, 3), 13);
        CHECK.due("74 takes one more than there is", file.update(1, 74, 7), true);
        CHECK.due("its page", file.where(1, 0), 1);
        CHECK.due("its slot", file.where(1, 1), 1);
        CHECK.due("home's slot", file.slot(0, 1), 2);
        CHECK.due("away slot", file.slot(1, 1), 3);
        CHECK.due("no record there", file.length(33), SlotFile.NONE);
        CHECK.due("room of home", file.page(0, 3), 13 + 61 - 5);
        CHECK.due("end of home", file.page(0, 4), 223);
        CHECK.due("room of away", file.page(1, 3), 233 - 4 - 79);
        CHECK.due("its length", file.length(1), 74);
        CHECK.due("its byte", file.byteAt(1, 16), 7 + 112 + 1);
        SlotFile stays = new SlotFile();
        twoPages(stays);
        stays.update(1, 73, 7);
        CHECK.due("73 takes all there is", stays.where(1, 0), 0);
        CHECK.due("no room", stays.page(0, 3), 0);
        awayCellsTakeFourMore();
        aPlaceAwayNeedsFourMore();
    }

    private static void aPlaceAwayNeedsFourMore() {
        for (int more = 0; more < 2; more++) {
            SlotFile file = new SlotFile();
            file.insert(100, 1);
            file.insert(60, 2);
            file.insert(60, 3);
            file.insert(100, 4);
            file.insert(40 + more, 5);
            // Page 1 has room 248 - 8 - 101 - 41 = 98 or one less: 89, 1, 4 and the slot's 4 are 98.
            CHECK.due("room", file.page(1, 3), 98 - more);
            file.update(1, 89, 6);
            CHECK.due("page with " + (98 - more), file.where(1, 0), 1 + more);
        }
    }

    private static void awayCellsTakeFourMore() {
        // Home full of 27 least cells, with room 5: what takes more than 10 goes away.
        int[][] lengthAndBytes = {{10, 15}, {100, 105}};
        for (int[] row : lengthAndBytes) {
            SlotFile file = fullOfLeast();
            file.update(0, row[0], 0);
            CHECK.due("room with " + row[0] + " away", file.page(1, 3), 248 - 4 - row[1]);
        }
        SlotFile file = fullOfLeast();
        file.update(0, 9, 0);
        CHECK.due("9 is at home", file.where(0, 0), 0);
        file.update(1, 101, 0);
        CHECK.due("9 bytes for a long one: away", file.where(1, 0), 2);
        CHECK.due("13 bytes there", file.page(2, 3), 248 - 4 - 13);
        file.update(1, 10, 0);
        file.update(1, 0, 0);
        CHECK.due("back at home", file.where(1, 0), 0);
    }

    private static SlotFile fullOfLeast() {
        SlotFile file = new SlotFile();
        for (int i = 0; i < 27; i++) {
            file.insert(0, i);
        }
        return file;
    }

    private static void comesHome() {
        SlotFile file = new SlotFile();
        twoPages(file);
        file.update(1, 74, 7);
        // Home's room is 69 and the stub's 5: 73 bytes of a value are just there.
        CHECK.due("update(1, 74, 8)", file.update(1, 74, 8), true);
        CHECK.due("one too many", file.where(1, 0), 1);
        CHECK.due("update(1, 73, 9)", file.update(1, 73, 9), true);
        CHECK.due("at home", file.where(1, 0), 0);
        CHECK.due("its slot", file.where(1, 1), 1);
        CHECK.due("slot", file.slot(0, 1), 1);
        CHECK.due("no slot behind", file.page(1, 1), 1);
        CHECK.due("away room", file.page(1, 3), 233);
        CHECK.due("away end stays", file.page(1, 4), 11 + 79);
        CHECK.due("home was compacted", file.page(0, 4), 101 + 61 + 74);
        CHECK.due("stubs", file.page(0, 6), 0);
        CHECK.due("away", file.total(4), 0);
    }

    private static void isChangedWhereItIsAway() {
        SlotFile file = new SlotFile();
        twoPages(file);
        file.update(1, 80, 7);
        int end = file.page(1, 4);
        CHECK.due("update(1, 75, 8)", file.update(1, 75, 8), true);
        CHECK.due("there", file.where(1, 0), 1);
        CHECK.due("no larger", file.page(1, 4), end);
        CHECK.due("room", file.page(1, 3), 248 - 8 - 11 - 80);
        CHECK.due("update(1, 95, 8)", file.update(1, 95, 8), true);
        CHECK.due("there too", file.where(1, 0), 1);
        CHECK.due("larger", file.page(1, 4), end + 100);
        file.insert(99, 5);
        // Page 1: 248 - 12 - 11 - 100 - 100 = 25 room.
        CHECK.due("room of 1", file.page(1, 3), 25);
        file.update(32, 29, 5);
        CHECK.due("room of 1 now", file.page(1, 3), 6);
        CHECK.due("update(1, 100, 8)", file.update(1, 100, 8), true);
        CHECK.due("just there", file.where(1, 0), 1);
        CHECK.due("room left", file.page(1, 3), 1);
    }

    private static void goesToAnotherPlaceAway() {
        SlotFile file = new SlotFile();
        twoPages(file);
        file.update(1, 90, 7);
        file.insert(99, 5);
        file.update(32, 34, 5);
        CHECK.due("room of 1", file.page(1, 3), 248 - 12 - 35 - 95 - 100);
        CHECK.due("update(1, 97, 8)", file.update(1, 97, 8), true);
        CHECK.due("a third page", file.where(1, 0), 2);
        CHECK.due("its slot", file.where(1, 1), 0);
        CHECK.due("the old one is gone", file.slot(1, 1), 0);
        CHECK.due("one stub", file.total(4), 1);
        CHECK.due("one stub at home", file.page(0, 6), 1);
        CHECK.due("end of the old page stays", file.page(1, 4), 95 + 100 + 35);
    }

    private static void freesTheOldChainBehindTheNewOne() {
        SlotFile file = new SlotFile();
        file.insert(10, 1);
        file.update(0, 300, 1);
        CHECK.due("chain", file.where(0, 3), 1);
        file.update(0, 700, 1);
        CHECK.due("its first page", file.where(0, 3), 3);
        CHECK.due("three pages", file.total(3), 3);
        CHECK.due("the old ones are free", file.page(1, 0) + file.page(2, 0), 0);
        file.update(0, 241, 1);
        CHECK.due("the least free ones", file.where(0, 3), 1);
        CHECK.due("its next", file.page(1, 7), 2);
        CHECK.due("what is left", file.page(2, 8), 1);
        file.update(0, 100, 1);
        CHECK.due("no chain", file.total(3), 0);
        CHECK.due("none first", file.where(0, 3), SlotFile.NONE);
    }

    private static void aPageThatWillBeFreeIsNotFreeYet() {
        SlotFile file = new SlotFile();
        file.insert(100, 1);
        file.insert(100, 1);
        file.insert(33, 1);
        file.update(2, 40, 1);
        CHECK.due("alone in page 1", file.where(2, 0), 1);
        file.delete(0);
        CHECK.due("update(2, 240, 1)", file.update(2, 240, 1), true);
        CHECK.due("home", file.where(2, 0), 0);
        CHECK.due("its chain is not in page 1", file.where(2, 3), 2);
        CHECK.due("which is free now", file.page(1, 0), 0);
        CHECK.due("free pages", file.total(1), 94);
    }

    private static void refused() {
        Consumer<SlotFile> scene = x -> {
            x.insert(8, 1);
            for (int i = 0; i < 18; i++) {
                x.insert(1200, i);
            }
        };
        SlotFile file = new SlotFile();
        scene.accept(file);
        CHECK.due("free", file.total(1), 5);
        CHECK.due("all five are enough", file.update(0, 1200, 3), true);
        CHECK.due("its own chain is not free yet", file.update(0, 101, 4), false);
        CHECK.due("it is as it was", file.length(0), 1200);
        CHECK.due("its byte too", file.byteAt(0, 0), 3);
        CHECK.due("changes", file.total(5), 20);
        Consumer<SlotFile> full = scene.andThen(x -> x.update(0, 1200, 3));
        CHECK.dueSame("a refused update", full, full.andThen(x -> x.update(0, 101, 4)));
        CHECK.due("no page away for a short one", file.update(0, 10, 4), false);
        CHECK.due("at home it needs none", file.update(0, 9, 4), true);
        CHECK.due("free again", file.total(1), 5);
        refusedWithoutAPlace();
    }

    private static void refusedWithoutAPlace() {
        Consumer<SlotFile> scene = x -> {
            for (int i = 0; i < 96; i++) {
                x.insert(100, 0);
                x.insert(100, 0);
                x.insert(i < 95 ? 33 : 0, 0);
            }
        };
        SlotFile file = new SlotFile();
        scene.accept(file);
        CHECK.due("no page is free", file.total(1), 0);
        CHECK.due("no place away", file.update(2, 34, 0), false);
        CHECK.due("nor from another page", file.update(5 * 32 + 2, 50, 0), false);
        CHECK.due("stays", file.update(2, 32, 0), true);
        CHECK.dueSame("an update without a place", scene, scene.andThen(x -> x.update(2, 34, 0)));
        aPlaceAwayOnlyInTheWrongPages();
    }

    private static void aPlaceAwayOnlyInTheWrongPages() {
        Consumer<SlotFile> scene = x -> {
            for (int i = 0; i < 95; i++) {
                x.insert(100, 0);
                x.insert(100, 0);
                x.insert(33, 0);
            }
            x.update(2, 90, 0);
            x.insert(100, 0);
        };
        SlotFile file = new SlotFile();
        scene.accept(file);
        CHECK.due("away in the last page", file.where(2, 0), 95);
        CHECK.due("room there", file.page(95, 3), 248 - 8 - 95 - 101);
        file.insert(34, 0);
        CHECK.due("room there now", file.page(95, 3), 5);
        CHECK.due("five more", file.update(2, 95, 0), true);
        CHECK.due("none more, and no other page", file.update(2, 96, 0), false);
        CHECK.due("where it was", file.where(2, 0), 95);
        CHECK.due("as it was", file.length(2), 95);
        Consumer<SlotFile> tight = scene.andThen(x -> x.insert(34, 0)).andThen(x -> x.update(2, 95, 0));
        CHECK.dueSame("a refused update of one that is away", tight, tight.andThen(x -> x.update(2, 96, 0)));
    }

    private static void wrongInputs() {
        Consumer<SlotFile> scene = x -> {
            twoPages(x);
            x.update(1, 74, 7);
            x.delete(2);
        };
        int[] noRecords = {2, 3, 33, 34, 64, -1, 3071, 3072, Integer.MIN_VALUE, Integer.MAX_VALUE};
        for (int record : noRecords) {
            CHECK.dueThrowAndSame("update(" + record + ", 5, 5)", NoSuchElementException.class, scene,
                x -> Check.update(x, record, 5, 5));
        }
        int[][] wrong = {{-1, 0}, {1201, 0}, {0, -1}, {0, 256}, {Integer.MIN_VALUE, 0}, {0, Integer.MAX_VALUE}};
        for (int[] row : wrong) {
            CHECK.dueThrowAndSame("update(1, " + row[0] + ", " + row[1] + ")", IllegalArgumentException.class, scene,
                x -> Check.update(x, 1, row[0], row[1]));
        }
        CHECK.dueThrowAndSame("update(2, -1, 0): the record first", NoSuchElementException.class, scene,
            x -> Check.update(x, 2, -1, 0));
    }
}
