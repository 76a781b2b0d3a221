/** Promise 11. */
public final class SyncTest {
    public static void main(String[] args) {
        Check check = new Check();
        SlotFile file = new SlotFile();
        check.due("sync() of none", file.sync(), 0);
        file.insert(1, 1);
        file.update(0, 2, 2);
        file.delete(0);
        check.due("sync() of three", file.sync(), 3);
        check.due("sync() again", file.sync(), 0);
        file.insert(5, 5);
        try {
            file.delete(7);
        } catch (java.util.NoSuchElementException expected) {
            check.due("a call that throws is no change", file.total(5), 1);
        }
        check.due("sync() of one", file.sync(), 1);
        check.due("nothing to lose", file.crash(0), 0);
        check.due("length(0)", file.length(0), 5);
        file.insert(6, 6);
        file.crash(1);
        check.due("sync() behind a crash", file.sync(), 0);
        refusedOnesAreNoChanges(check);
        many(check);
        check.end();
    }

    private static void refusedOnesAreNoChanges(Check check) {
        SlotFile file = new SlotFile();
        for (int i = 0; i < 25; i++) {
            file.insert(1200, 1);
        }
        file.update(file.next(-1), 1100, 1);
        check.due("19 fit, with one page of cells", file.total(0), 19);
        check.due("sync()", file.sync(), 19);
    }

    private static void many(Check check) {
        SlotFile file = new SlotFile();
        file.insert(10, 1);
        for (int i = 0; i < 510; i++) {
            file.update(0, i % 90, i % 256);
        }
        check.due("sync() as call 512", file.sync(), 511);
    }
}
