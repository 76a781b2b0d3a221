import java.util.NoSuchElementException;
import java.util.function.Consumer;

/** How long a value is, what its bytes are, and calls with numbers that are not as they may be. */
public final class ValueEdgesTest {
    private static final Check CHECK = new Check();
    private static final int LEAST = Integer.MIN_VALUE;
    private static final int GREATEST = Integer.MAX_VALUE;

    // None of the busy file's: behind the last slot, of a cell that is away, of an empty slot, of a page of a
    // chain, of a free page, and outside all pages.
    private static final int[] NO_RECORDS = {4, 31, 32, 34, 36, 63, 64, 96, 128, 3071, 3072, -1, -32, LEAST, GREATEST};

    public static void main(String[] args) {
        shortestAndLongestInserted();
        shortestAndLongestUpdated();
        leastAndGreatestSeed();
        bytesWrapAround();
        wrongLengthsAndSeeds();
        otherWrongNumbers();
        greatestNumbersThatMayBe();
        noSuchRecord();
        theRecordIsLookedAtFirst();
        CHECK.end();
    }

    /**
     * Page 0: values of 101, 101 and 25 bytes and a stub. Page 1: the stub's value (55), a long one (9) with
     * pages 2 and 3, an empty slot, 21 bytes. Four changes since the sync.
     */
    private static void busy(SlotFile file) {
        Scenes.tightHome(file);
        file.update(3, 50, 5);
        file.sync();
        file.insert(300, 6);
        file.insert(10, 7);
        file.insert(20, 8);
        file.delete(34);
    }

    private static void dueBusy(SlotFile file) {
        CHECK.dueCells(file, 0, 4, 4, 0, 232, 0, 1);
        CHECK.dueCells(file, 1, 4, 3, 147, 96, 4, 0);
        CHECK.dueChain(file, 2, 3, 240);
        CHECK.dueChain(file, 3, -1, 60);
        CHECK.dueTotals(file, 6, 92, 2, 2, 1, 4, 0, 0);
    }

    private static void shortestAndLongestInserted() {
        CHECK.about("a VALUE of 0 .. 1200 bytes (insert)");
        SlotFile file = new SlotFile();
        CHECK.due("insert(0, 7)", file.insert(0, 7), 0);
        CHECK.due("length(0)", file.length(0), 0);
        CHECK.due("byteAt(0, 0)", file.byteAt(0, 0), -1);
        CHECK.dueWhere(file, 0, 0, 0, 0, -1);
        CHECK.dueCells(file, 0, 1, 1, 239, 5, 7, 0);
        CHECK.due("insert(1200, 9)", file.insert(1200, 9), 1);
        CHECK.due("length(1)", file.length(1), 1200);
        CHECK.due("byteAt(1, 1199)", file.byteAt(1, 1199), (9 + 7 * 1199 + 74) % 256);
        CHECK.due("byteAt(1, 1200)", file.byteAt(1, 1200), -1);
        CHECK.dueWhere(file, 1, 0, 1, 5, 1);
        CHECK.dueCells(file, 0, 2, 2, 226, 14, 7, 0);
        CHECK.dueTotals(file, 2, 90, 1, 5, 0, 2, 0, 0);
    }

    private static void shortestAndLongestUpdated() {
        CHECK.about("a VALUE of 0 .. 1200 bytes (update)");
        SlotFile file = new SlotFile();
        file.insert(10, 1);
        CHECK.due("update(0, 1200, 2)", file.update(0, 1200, 2), true);
        CHECK.due("length(0)", file.length(0), 1200);
        CHECK.dueWhere(file, 0, 0, 0, 5, 1);
        CHECK.dueCells(file, 0, 1, 1, 235, 11, 7, 0);
        CHECK.due("update(0, 0, 3)", file.update(0, 0, 3), true);
        CHECK.due("length(0) now", file.length(0), 0);
        CHECK.due("byteAt(0, 0)", file.byteAt(0, 0), -1);
        CHECK.dueWhere(file, 0, 0, 0, 0, -1);
        CHECK.dueCells(file, 0, 1, 1, 239, 11, 7, 0);
        CHECK.dueTotals(file, 1, 95, 1, 0, 0, 3, 0, 0);
    }

    private static void leastAndGreatestSeed() {
        CHECK.about("a seed not 0 .. 255");
        SlotFile file = new SlotFile();
        CHECK.due("insert(3, 0)", file.insert(3, 0), 0);
        CHECK.due("insert(3, 255)", file.insert(3, 255), 1);
        CHECK.due("first byte of seed 0", file.byteAt(0, 0), 0);
        CHECK.due("first byte of seed 255", file.byteAt(1, 0), 255);
        CHECK.due("update(0, 3, 255)", file.update(0, 3, 255), true);
        CHECK.due("update(1, 3, 0)", file.update(1, 3, 0), true);
        CHECK.due("first byte of seed 255 now", file.byteAt(0, 0), 255);
        CHECK.due("first byte of seed 0 now", file.byteAt(1, 0), 0);
    }

    private static void bytesWrapAround() {
        CHECK.about("byte i is (seed + 7 i + i / 16) modulo 256");
        SlotFile file = new SlotFile();
        file.insert(100, 144);
        CHECK.due("byte 15", file.byteAt(0, 15), 249);
        CHECK.due("byte 16, one more for a sixteenth: 257", file.byteAt(0, 16), 1);
        file.update(0, 100, 143);
        CHECK.due("byte 16: 256", file.byteAt(0, 16), 0);
        file.update(0, 100, 142);
        CHECK.due("byte 16: 255", file.byteAt(0, 16), 255);
        file.update(0, 1200, 255);
        CHECK.due("byte 31: 255 + 217 + 1", file.byteAt(0, 31), 217);
        CHECK.due("byte 32: 255 + 224 + 2", file.byteAt(0, 32), 225);
        CHECK.due("byte 239: 255 + 1673 + 14, the last one of a page", file.byteAt(0, 239), 150);
        CHECK.due("byte 240: 255 + 1680 + 15, the first one of the next", file.byteAt(0, 240), 158);
        CHECK.due("byte 1199: 255 + 8393 + 74", file.byteAt(0, 1199), 18);
    }

    private static void wrongLengthsAndSeeds() {
        CHECK.about("a length is not 0 .. 1200, a seed not 0 .. 255");
        int[][] wrong = {{-1, 0}, {1201, 0}, {0, -1}, {0, 256}, {1200, 256}, {1200, -1}, {1201, 256}, {LEAST, 5},
            {GREATEST, 5}, {5, LEAST}, {5, GREATEST}};
        // At home, at home and long, away.
        int[] records = {0, 33, 3};
        for (int[] row : wrong) {
            String value = row[0] + ", " + row[1] + ")";
            dueWrong("insert(" + value, x -> x.insert(row[0], row[1]));
            for (int record : records) {
                dueWrong("update(" + record + ", " + value, x -> Check.update(x, record, row[0], row[1]));
            }
        }
    }

    private static void dueWrong(String call, Check.CallOn made) {
        CHECK.dueThrowAndSame(call, IllegalArgumentException.class, ValueEdgesTest::busy, made);
    }

    private static void otherWrongNumbers() {
        CHECK.about("or another number is not as it may be");
        for (int what : new int[] {-1, 4, LEAST, GREATEST}) {
            dueWrong("where(0, " + what + ")", x -> x.where(0, what));
            dueWrong("where(3, " + what + ")", x -> x.where(3, what));
            dueWrong("where(33, " + what + ")", x -> x.where(33, what));
        }
        for (int page : new int[] {-1, 96, LEAST, GREATEST}) {
            dueWrong("page(" + page + ", 0)", x -> x.page(page, 0));
            dueWrong("page(" + page + ", 8)", x -> x.page(page, 8));
            dueWrong("slot(" + page + ", 0)", x -> x.slot(page, 0));
        }
        for (int page : new int[] {0, 2, 95}) {
            for (int what : new int[] {-1, 9, LEAST, GREATEST}) {
                dueWrong("page(" + page + ", " + what + ")", x -> x.page(page, what));
            }
            for (int slot : new int[] {-1, LEAST}) {
                dueWrong("slot(" + page + ", " + slot + ")", x -> x.slot(page, slot));
            }
        }
        for (int k : new int[] {-1, 5, LEAST, GREATEST}) {
            dueWrong("crash(" + k + ")", x -> x.crash(k));
        }
        for (int what : new int[] {-1, 8, LEAST, GREATEST}) {
            dueWrong("total(" + what + ")", x -> x.total(what));
        }
    }

    private static void greatestNumbersThatMayBe() {
        CHECK.about("numbers that are just as they may be");
        SlotFile file = new SlotFile();
        busy(file);
        dueBusy(file);
        CHECK.dueWhere(file, 0, 0, 0, 0, -1);
        CHECK.dueWhere(file, 3, 1, 0, 0, -1);
        CHECK.dueWhere(file, 33, 1, 1, 2, 2);
        CHECK.dueFree(file, 95);
        CHECK.dueSlots(file, 95);
        CHECK.dueSlots(file, 1, 3, 1, 0, 1);
        CHECK.due("crash(4)", file.crash(4), 0);
        CHECK.dueTotals(file, 6, 92, 2, 2, 1, 0, 0, 1);
    }

    private static void noSuchRecord() {
        CHECK.about("NoSuchElementException: there is no such record");
        for (int record : NO_RECORDS) {
            dueMissing("update(" + record + ", 5, 5)", x -> Check.update(x, record, 5, 5));
            dueMissing("delete(" + record + ")", x -> x.delete(record));
            dueMissing("byteAt(" + record + ", 0)", x -> x.byteAt(record, 0));
            dueMissing("byteAt(" + record + ", -1)", x -> x.byteAt(record, -1));
            dueMissing("where(" + record + ", 0)", x -> x.where(record, 0));
            dueMissing("where(" + record + ", 3)", x -> x.where(record, 3));
        }
        for (int record : new int[] {-1, 0, 3071}) {
            CHECK.dueThrowAndSame("delete(" + record + ") of none", NoSuchElementException.class, x -> { },
                x -> x.delete(record));
        }
        Consumer<SlotFile> deleted = x -> {
            x.insert(5, 5);
            x.delete(0);
        };
        CHECK.dueThrowAndSame("delete(0) again", NoSuchElementException.class, deleted, x -> x.delete(0));
        int[][] recordsAndLengths = {{0, 100}, {1, 100}, {2, 24}, {3, 50}, {33, 300}, {35, 20}};
        for (int[] row : recordsAndLengths) {
            SlotFile file = new SlotFile();
            busy(file);
            String record = "(" + row[0] + ", ";
            CHECK.due("length" + record + "..)", file.length(row[0]), row[1]);
            CHECK.due("byteAt" + record + "last)", file.byteAt(row[0], row[1] - 1) >= 0, true);
            CHECK.due("where" + record + "0)", file.where(row[0], 0), row[0] < 3 ? 0 : 1);
            CHECK.due("update" + record + "5, 5)", file.update(row[0], 5, 5), true);
            CHECK.due("delete" + record + "..)", file.delete(row[0]), 5);
        }
    }

    private static void dueMissing(String call, Check.CallOn made) {
        CHECK.dueThrowAndSame(call, NoSuchElementException.class, ValueEdgesTest::busy, made);
    }

    private static void theRecordIsLookedAtFirst() {
        CHECK.about("NoSuchElementException; IllegalArgumentException (in this order)");
        dueMissing("update(34, -1, 0)", x -> Check.update(x, 34, -1, 0));
        dueMissing("update(34, 1201, 256)", x -> Check.update(x, 34, 1201, 256));
        dueMissing("update(-1, 0, -1)", x -> Check.update(x, -1, 0, -1));
        dueMissing("where(34, 4)", x -> x.where(34, 4));
        dueMissing("where(3072, -1)", x -> x.where(3072, -1));
    }
}
