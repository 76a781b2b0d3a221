import java.util.function.Consumer;

/** Syncs, crashes, and which calls are changes. */
public final class CrashEdgesTest {
    private static final Check CHECK = new Check();

    public static void main(String[] args) {
        noChangesAtFirst();
        toEveryNumberOfChanges();
        notSoMany();
        syncedThen();
        behindASync();
        refusedOnesAreNotCounted();
        callsThatThrowAreNotCounted();
        questionsAreNotCounted();
        anUpdateToTheSameIsAChange();
        compactionsAndCrashesStay();
        placesBehindACrash();
        CHECK.end();
    }

    private static void noChangesAtFirst() {
        CHECK.about("counted since the latest SYNC (at first none)");
        SlotFile file = new SlotFile();
        CHECK.due("total(5)", file.total(5), 0);
        CHECK.due("sync()", file.sync(), 0);
        CHECK.due("crash(0)", file.crash(0), 0);
        CHECK.dueTotals(file, 0, 96, 0, 0, 0, 0, 0, 1);
        CHECK.dueThrowAndSame("crash(1)", IllegalArgumentException.class, x -> { }, x -> x.crash(1));
        CHECK.dueThrowAndSame("crash(-1)", IllegalArgumentException.class, x -> { }, x -> x.crash(-1));
    }

    // A page that is made and freed, a compaction, a value that goes away, elsewhere and home, chains.
    private static void change(SlotFile x, int i) {
        switch (i) {
            case 0 -> Scenes.tightHome(x);
            case 1 -> x.update(3, 50, 5);
            case 2 -> x.insert(100, 6);
            case 3 -> x.insert(79, 7);
            case 4 -> x.update(3, 60, 8);
            case 5 -> x.delete(0);
            case 6 -> x.update(3, 20, 9);
            case 7 -> x.update(33, 700, 10);
            case 8 -> x.update(33, 300, 11);
            case 9 -> x.delete(34);
            case 10 -> x.insert(101, 12);
            case 11 -> x.delete(33);
            default -> x.update(3, 100, 13);
        }
    }

    private static final int STEPS = 13;

    private static int changesBehind(int steps) {
        return steps == 0 ? 0 : steps + 3;
    }

    private static Consumer<SlotFile> steps(int from, int to) {
        return x -> {
            for (int i = from; i < to; i++) {
                change(x, i);
            }
        };
    }

    private static void toEveryNumberOfChanges() {
        CHECK.about("the file is just as it was behind the first k of them (k of 0: at the sync)");
        int all = changesBehind(STEPS);
        for (int kept = 0; kept <= STEPS; kept++) {
            int k = changesBehind(kept);
            Consumer<SlotFile> crashed = steps(0, STEPS).andThen(x -> {
                CHECK.due("total(5)", x.total(5), all);
                CHECK.due("crash(" + k + ")", x.crash(k), all - k);
            });
            Consumer<SlotFile> straight = steps(0, kept).andThen(x -> x.sync());
            CHECK.dueSameButCounts("crash(" + k + ") of " + all, crashed, straight);
            // What comes then goes the same way too.
            CHECK.dueSameButCounts("the same changes behind crash(" + k + ")",
                crashed.andThen(steps(kept, STEPS)), straight.andThen(steps(kept, STEPS)));
        }
    }

    private static void notSoMany() {
        CHECK.about("there are not so many, or k is below 0");
        Consumer<SlotFile> scene = x -> {
            x.insert(40, 1);
            x.sync();
            x.insert(300, 2);
            x.update(0, 50, 3);
            x.delete(1);
        };
        for (int k : new int[] {4, 5, 512, 513, Integer.MAX_VALUE, -1, -2, -3, Integer.MIN_VALUE}) {
            CHECK.dueThrowAndSame("crash(" + k + ") of three", IllegalArgumentException.class, scene, x -> x.crash(k));
        }
        int[][] lengths = {{40, -1}, {40, 300}, {50, 300}, {50, -1}};
        for (int k = 0; k <= 3; k++) {
            SlotFile file = new SlotFile();
            scene.accept(file);
            CHECK.due("crash(" + k + ") of three", file.crash(k), 3 - k);
            CHECK.due("length(0)", file.length(0), lengths[k][0]);
            CHECK.due("length(1)", file.length(1), lengths[k][1]);
            CHECK.due("total(3)", file.total(3), lengths[k][1] == 300 ? 2 : 0);
            CHECK.due("total(5)", file.total(5), 0);
            CHECK.due("total(7)", file.total(7), 1);
        }
    }

    private static void syncedThen() {
        CHECK.about("these are synced then");
        SlotFile file = new SlotFile();
        file.insert(10, 1);
        file.insert(20, 2);
        file.insert(30, 3);
        CHECK.due("crash(2)", file.crash(2), 1);
        CHECK.dueThrow("crash(1)", IllegalArgumentException.class, () -> file.crash(1));
        CHECK.due("crash(0)", file.crash(0), 0);
        CHECK.dueTotals(file, 2, 95, 1, 0, 0, 0, 0, 2);
        CHECK.due("sync()", file.sync(), 0);
        file.delete(0);
        file.delete(1);
        CHECK.dueFree(file, 0);
        CHECK.due("crash(0) now", file.crash(0), 2);
        CHECK.dueCells(file, 0, 2, 2, 248 - 8 - 11 - 21, 32, 6, 0);
        file.delete(0);
        CHECK.due("crash to all", file.crash(1), 0);
        CHECK.due("crash(0) behind it", file.crash(0), 0);
        CHECK.dueCells(file, 0, 2, 1, 248 - 8 - 21, 32, 7, 0);
        CHECK.dueSlots(file, 0, 0, 1);
    }

    private static void behindASync() {
        CHECK.about("SYNC: how many changes there were since the one before");
        SlotFile file = new SlotFile();
        file.insert(10, 1);
        CHECK.due("sync() of one", file.sync(), 1);
        CHECK.due("sync() of none", file.sync(), 0);
        file.update(0, 20, 2);
        file.delete(0);
        CHECK.due("sync() of two", file.sync(), 2);
        CHECK.dueThrow("crash(1)", IllegalArgumentException.class, () -> file.crash(1));
        CHECK.due("crash(0)", file.crash(0), 0);
        CHECK.dueTotals(file, 0, 96, 0, 0, 0, 0, 0, 1);
        file.insert(30, 3);
        file.crash(1);
        file.insert(40, 4);
        CHECK.due("sync() of one behind a crash", file.sync(), 1);
    }

    private static void refusedOnesAreNotCounted() {
        CHECK.about("CHANGES are inserts, updates, deletes that were not refused");
        Consumer<SlotFile> scene = x -> {
            Scenes.longOnes(x, 1);
            CHECK.due("an insert without pages", x.insert(241, 1), -1);
            CHECK.due("an insert without a place", x.insert(240, 1), -1);
            CHECK.due("an update without pages", x.update(160, 241, 1), false);
            CHECK.due("one change more", x.update(160, 240, 1), true);
            CHECK.due("a delete", x.delete(161), 1200);
        };
        SlotFile file = new SlotFile();
        scene.accept(file);
        CHECK.due("total(5)", file.total(5), 21);
        CHECK.due("sync()", file.sync(), 21);
        CHECK.dueThrowAndSame("crash(22)", IllegalArgumentException.class, scene, x -> x.crash(22));
        int[][] lost = {{21, 0}, {20, 1}, {19, 2}, {18, 3}};
        for (int[] row : lost) {
            SlotFile crashed = new SlotFile();
            scene.accept(crashed);
            CHECK.due("crash(" + row[0] + ")", crashed.crash(row[0]), row[1]);
            CHECK.due("length(160)", crashed.length(160), row[1] < 2 ? 240 : 1200);
            CHECK.due("length(161)", crashed.length(161), row[1] < 1 ? -1 : 1200);
            CHECK.due("length(178)", crashed.length(178), row[1] < 3 ? 960 : -1);
            int[] free = {10, 5, 1, 5};
            CHECK.due("total(1)", crashed.total(1), free[row[1]]);
        }
    }

    private static void callsThatThrowAreNotCounted() {
        CHECK.about("A call that throws changes nothing (and is no change)");
        Consumer<SlotFile> scene = x -> {
            x.insert(10, 1);
            Check.callCaught(x, y -> y.insert(-1, 1));
            Check.callCaught(x, y -> Check.update(y, 0, 1201, 1));
            Check.callCaught(x, y -> Check.update(y, 1, 10, 1));
            x.insert(20, 2);
            Check.callCaught(x, y -> y.delete(2));
            Check.callCaught(x, y -> y.crash(3));
            Check.callCaught(x, y -> y.crash(-1));
            Check.callCaught(x, y -> y.where(0, 4));
            Check.callCaught(x, y -> y.byteAt(9, 0));
        };
        SlotFile file = new SlotFile();
        scene.accept(file);
        CHECK.dueTotals(file, 2, 95, 1, 0, 0, 2, 0, 0);
        CHECK.dueThrow("crash(3)", IllegalArgumentException.class, () -> file.crash(3));
        CHECK.due("crash(1)", file.crash(1), 1);
        CHECK.due("length(0)", file.length(0), 10);
        CHECK.due("length(1)", file.length(1), -1);
    }

    private static void questionsAreNotCounted() {
        CHECK.about("CHANGES are inserts, updates, deletes (and no questions)");
        SlotFile file = new SlotFile();
        file.insert(300, 1);
        file.length(64);
        file.byteAt(64, 5);
        file.where(64, 2);
        file.next(-1);
        file.page(0, 7);
        file.slot(2, 0);
        file.total(0);
        CHECK.due("total(5)", file.total(5), 1);
        CHECK.due("sync()", file.sync(), 1);
    }

    private static void anUpdateToTheSameIsAChange() {
        CHECK.about("CHANGES are inserts, updates, deletes that were not refused (an update to the same value)");
        SlotFile file = new SlotFile();
        file.insert(10, 1);
        file.update(0, 10, 1);
        file.update(0, 10, 1);
        CHECK.due("total(5)", file.total(5), 3);
        CHECK.due("crash(1)", file.crash(1), 2);
        CHECK.due("length(0)", file.length(0), 10);
    }

    private static void compactionsAndCrashesStay() {
        CHECK.about("both stay as they are in a crash");
        SlotFile file = new SlotFile();
        Scenes.addFullPages(file, 1);
        file.update(2, 32, 3);
        file.update(2, 33, 3);
        CHECK.dueTotals(file, 3, 95, 1, 0, 0, 5, 1, 0);
        CHECK.due("crash to all", file.crash(5), 0);
        CHECK.dueTotals(file, 3, 95, 1, 0, 0, 0, 1, 1);
        file.update(2, 32, 3);
        file.update(2, 33, 3);
        CHECK.due("compacted again", file.total(6), 2);
        CHECK.due("crash before that", file.crash(1), 1);
        CHECK.dueTotals(file, 3, 95, 1, 0, 0, 0, 2, 2);
        CHECK.dueCells(file, 0, 3, 3, 1, 236, 0, 0);
        file.update(2, 33, 3);
        CHECK.due("compacted a third time", file.total(6), 3);
        CHECK.due("crash(0)", file.crash(0), 1);
        CHECK.dueTotals(file, 3, 95, 1, 0, 0, 0, 3, 3);
    }

    private static void placesBehindACrash() {
        CHECK.about("the file is just as it was (ends, free pages and chains too)");
        SlotFile file = new SlotFile();
        file.insert(10, 1);
        file.insert(700, 2);
        file.sync();
        file.update(0, 20, 1);
        file.delete(1);
        file.insert(300, 3);
        file.delete(0);
        CHECK.due("crash(0)", file.crash(0), 4);
        CHECK.dueCells(file, 0, 2, 2, 248 - 8 - 11 - 9, 20, 7, 0);
        CHECK.dueChain(file, 1, 2, 240);
        CHECK.dueChain(file, 2, 3, 240);
        CHECK.dueChain(file, 3, -1, 220);
        CHECK.dueFree(file, 4);
        CHECK.due("byteAt(1, 699)", file.byteAt(1, 699), (2 + 7 * 699 + 43) % 256);
        CHECK.due("insert(240, 4)", file.insert(240, 4), 2);
        CHECK.dueWhere(file, 2, 0, 2, 1, 4);
        CHECK.dueCells(file, 0, 3, 3, 207, 29, 6, 0);
    }
}
