import java.util.NoSuchElementException;

/** An object is used for at most 512 calls after it has been made; what later calls answer is free. */
public final class CallLimitTest {
    private static final Check CHECK = new Check();
    private static final int[] NUMBERS = {-1, 0, 1, 3, 8, 31, 32, 95, 96, 100, 101, 1200, 3071, 3072,
        Integer.MIN_VALUE, Integer.MAX_VALUE};

    public static void main(String[] args) {
        CHECK.about("An object is used for at most 512 calls after it has been made");
        as512thACount();
        as512thASync();
        as512thACrash();
        as512thAChange();
        as512thAQuestion();
        insertsAlone();
        longOnesInAndOut();
        crashesAlone();
        callsThatThrowAlone();
        laterCallsEndAndThrowNothingElse();
        CHECK.end();
    }

    /** 511 changes without a sync: one insert, then updates whose values grow and shrink. */
    private static SlotFile changed() {
        SlotFile file = new SlotFile();
        file.insert(10, 1);
        for (int i = 1; i < 511; i++) {
            file.update(0, lengthOf(i), i % 256);
        }
        return file;
    }

    private static int lengthOf(int i) {
        return i * 37 % 1201;
    }

    private static void as512thACount() {
        CHECK.due("total(5)", changed().total(5), 511);
        CHECK.due("total(0)", changed().total(0), 1);
        CHECK.due("length(0)", changed().length(0), lengthOf(510));
    }

    private static void as512thASync() {
        CHECK.due("sync()", changed().sync(), 511);
    }

    private static void as512thACrash() {
        for (int k : new int[] {0, 1, 255, 256, 510, 511}) {
            CHECK.due("crash(" + k + ")", changed().crash(k), 511 - k);
        }
        CHECK.dueThrow("crash(512)", IllegalArgumentException.class, () -> changed().crash(512));
        CHECK.dueThrow("crash(-1)", IllegalArgumentException.class, () -> changed().crash(-1));
        // Half as many, so that there are calls left to look at what is there.
        for (int k : new int[] {0, 1, 2, 100, 249, 250}) {
            SlotFile file = new SlotFile();
            file.insert(10, 1);
            for (int i = 1; i < 250; i++) {
                file.update(0, lengthOf(i), i);
            }
            CHECK.due("crash(" + k + ") of 250", file.crash(k), 250 - k);
            int length = k == 0 ? -1 : k == 1 ? 10 : lengthOf(k - 1);
            CHECK.due("length(0) behind crash(" + k + ")", file.length(0), length);
            CHECK.due("total(3)", file.total(3), length <= 100 ? 0 : (length + 239) / 240);
            if (k > 0) {
                CHECK.due("byteAt(0, 0)", file.byteAt(0, 0), k == 1 ? 1 : k - 1);
            }
        }
    }

    private static void as512thAChange() {
        CHECK.due("insert(20, 5)", changed().insert(20, 5), 1);
        CHECK.due("update(0, 1200, 5)", changed().update(0, 1200, 5), true);
        CHECK.due("delete(0)", changed().delete(0), lengthOf(510));
        CHECK.dueThrow("insert(1201, 5)", IllegalArgumentException.class, () -> changed().insert(1201, 5));
        CHECK.dueThrow("delete(1)", NoSuchElementException.class, () -> changed().delete(1));
    }

    private static void as512thAQuestion() {
        CHECK.due("where(0, 0)", changed().where(0, 0), 0);
        CHECK.due("byteAt(0, 0)", changed().byteAt(0, 0), 510 % 256);
        CHECK.due("next(-1)", changed().next(-1), 0);
        CHECK.due("page(0, 1)", changed().page(0, 1), 1);
        CHECK.due("slot(0, 0)", changed().slot(0, 0), 1);
    }

    private static void insertsAlone() {
        SlotFile file = new SlotFile();
        for (int i = 0; i < 512; i++) {
            CHECK.due("insert " + i, file.insert(0, i % 256), 32 * (i / 27) + i % 27);
        }
    }

    private static void longOnesInAndOut() {
        SlotFile file = new SlotFile();
        for (int i = 0; i < 256; i++) {
            CHECK.due("insert " + i, file.insert(1200, i), 5 * 32);
            CHECK.due("delete " + i, file.delete(5 * 32), 1200);
        }
    }

    private static void crashesAlone() {
        SlotFile file = new SlotFile();
        for (int i = 0; i < 511; i++) {
            CHECK.due("crash " + i, file.crash(0), 0);
        }
        CHECK.due("total(7)", file.total(7), 511);
        SlotFile synced = new SlotFile();
        for (int i = 0; i < 170; i++) {
            synced.insert(5, 5);
            synced.insert(6, 6);
            CHECK.due("crash " + i + " to one change", synced.crash(1), 1);
        }
        CHECK.due("total(0)", synced.total(0), 170);
        CHECK.due("total(7) of 170", synced.total(7), 170);
    }

    private static void callsThatThrowAlone() {
        SlotFile file = new SlotFile();
        for (int i = 0; i < 511; i++) {
            Check.callCaught(file, i % 2 == 0 ? x -> x.insert(1201, 0) : x -> x.delete(0));
        }
        CHECK.due("total(5)", file.total(5), 0);
    }

    private static void laterCallsEndAndThrowNothingElse() {
        CHECK.about("what later calls answer is free (but they end, and throw nothing that they do not name)");
        SlotFile file = changed();
        file.insert(300, 1);
        for (int a : NUMBERS) {
            for (int b : NUMBERS) {
                dueNamed("insert", () -> file.insert(a, b));
                dueNamed("update", () -> Check.update(file, a, b, 5));
                dueNamed("delete", () -> file.delete(a));
                dueNamed("length", () -> file.length(a));
                dueNamed("byteAt", () -> file.byteAt(a, b));
                dueNamed("where", () -> file.where(a, b));
                dueNamed("next", () -> file.next(a));
                dueNamed("page", () -> file.page(a, b));
                dueNamed("slot", () -> file.slot(a, b));
                dueNamed("total", () -> file.total(a));
            }
        }
        CHECK.due("it may crash to all", file.crash(file.total(5)), 0);
        for (int i = 0; i < 2000; i++) {
            int length = lengthOf(i);
            dueNamed("insert", () -> file.insert(length, 7));
            dueNamed("update", () -> Check.update(file, file.next(-1), 1200 - length, 7));
            dueNamed("crash", () -> file.crash(length));
        }
        dueNamed("sync", file::sync);
        dueNamed("insert", () -> file.insert(5, 5));
    }

    private static void dueNamed(String call, Check.Call made) {
        String thrown = "";
        try {
            made.answer();
        } catch (NoSuchElementException | IllegalArgumentException named) {
            thrown = "";
        } catch (RuntimeException other) {
            thrown = " threw " + other;
        }
        CHECK.due("a later " + call + thrown, thrown.isEmpty(), true);
    }
}
