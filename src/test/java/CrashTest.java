import java.util.ArrayList;
import java.util.List;
import java.util.function.Consumer;

/** Promise 12. */
public final class CrashTest {
    private static final Check CHECK = new Check();

    public static void main(String[] args) {
        everyNumberOfChanges();
        theyAreSyncedThen();
        chainsComeBack();
        countsStay();
        refusedChangesAreNotCounted();
        many();
        wrongInputs();
        CHECK.end();
    }

    private static List<Consumer<SlotFile>> changes() {
        List<Consumer<SlotFile>> all = new ArrayList<>();
        all.add(x -> x.insert(100, 1));
        all.add(x -> x.insert(60, 2));
        all.add(x -> x.insert(60, 3));
        all.add(x -> x.insert(700, 4));
        all.add(x -> x.update(1, 90, 5));
        all.add(x -> x.update(0, 20, 6));
        all.add(x -> x.update(2, 100, 7));
        all.add(x -> x.delete(0));
        all.add(x -> x.update(1, 30, 8));
        all.add(x -> x.update(1, 950, 9));
        all.add(x -> x.insert(12, 10));
        all.add(x -> x.delete(2));
        return all;
    }

    private static Consumer<SlotFile> first(int count) {
        return x -> {
            for (int i = 0; i < count; i++) {
                changes().get(i).accept(x);
            }
        };
    }

    private static void everyNumberOfChanges() {
        int all = changes().size();
        for (int synced = 0; synced <= 6; synced += 3) {
            for (int k = 0; synced + k <= all; k++) {
                int before = synced;
                int kept = k;
                Consumer<SlotFile> crashed = x -> {
                    first(before).accept(x);
                    x.sync();
                    for (int i = before; i < all; i++) {
                        changes().get(i).accept(x);
                    }
                    CHECK.due("lost", x.crash(kept), all - before - kept);
                };
                CHECK.dueSameButCounts("crash(" + kept + ") behind " + before, crashed, x -> {
                    first(before + kept).accept(x);
                    x.sync();
                });
            }
        }
    }

    private static void theyAreSyncedThen() {
        SlotFile file = new SlotFile();
        file.insert(10, 1);
        file.insert(20, 2);
        file.insert(30, 3);
        CHECK.due("crash(2)", file.crash(2), 1);
        CHECK.due("records", file.total(0), 2);
        CHECK.due("changes", file.total(5), 0);
        CHECK.due("crash(0) stays there", file.crash(0), 0);
        CHECK.due("records still", file.total(0), 2);
        CHECK.due("length(1)", file.length(1), 20);
        CHECK.due("length(2)", file.length(2), SlotFile.NONE);
        file.insert(40, 4);
        file.delete(0);
        CHECK.due("crash(1)", file.crash(1), 1);
        CHECK.due("length(0)", file.length(0), 10);
        CHECK.due("length(2) now", file.length(2), 40);
        file.delete(2);
        CHECK.due("crash to all", file.crash(1), 0);
        CHECK.due("deleted", file.length(2), SlotFile.NONE);
        file.update(0, 50, 5);
        file.update(0, 60, 6);
        CHECK.due("crash to none", file.crash(0), 2);
        CHECK.due("length(0) as synced", file.length(0), 10);
        CHECK.due("its byte", file.byteAt(0, 0), 1);
    }

    private static void chainsComeBack() {
        SlotFile file = new SlotFile();
        file.insert(10, 1);
        file.insert(700, 1);
        file.sync();
        file.delete(1);
        file.insert(300, 2);
        CHECK.due("the last one", file.page(2, 7), SlotFile.NONE);
        CHECK.due("what is left", file.page(2, 8), 60);
        CHECK.due("crash(0)", file.crash(0), 2);
        CHECK.due("its next", file.page(2, 7), 3);
        CHECK.due("its bytes", file.page(2, 8), 240);
        CHECK.due("the last one's", file.page(3, 8), 220);
        file.delete(1);
        CHECK.due("all are freed", file.total(3), 0);
    }

    private static void countsStay() {
        SlotFile file = new SlotFile();
        file.insert(99, 1);
        file.insert(99, 1);
        file.update(1, 60, 1);
        file.update(1, 70, 1);
        CHECK.due("compacted", file.total(6), 1);
        file.crash(4);
        CHECK.due("not counted again", file.total(6), 1);
        CHECK.due("crashes", file.total(7), 1);
        CHECK.due("end", file.page(0, 4), 171);
        file.update(1, 60, 1);
        file.insert(66, 1);
        CHECK.due("compacted again", file.total(6), 2);
        file.crash(0);
        CHECK.due("it stays", file.total(6), 2);
        CHECK.due("crashes now", file.total(7), 2);
        CHECK.due("the end does not", file.page(0, 4), 171);
    }

    private static void refusedChangesAreNotCounted() {
        SlotFile file = new SlotFile();
        for (int i = 0; i < 20; i++) {
            file.insert(1200, i);
        }
        file.delete(file.next(-1));
        file.insert(100, 1);
        CHECK.due("changes", file.total(5), 21);
        CHECK.due("crash(20)", file.crash(20), 1);
        CHECK.due("free", file.total(1), 5);
        CHECK.due("records", file.total(0), 18);
    }

    private static void many() {
        SlotFile file = new SlotFile();
        file.insert(1, 1);
        for (int i = 1; i < 400; i++) {
            file.update(0, i, i % 256);
        }
        CHECK.due("crash(200)", file.crash(200), 200);
        CHECK.due("length", file.length(0), 199);
        CHECK.due("its byte", file.byteAt(0, 0), 199);
    }

    private static void wrongInputs() {
        Consumer<SlotFile> scene = x -> {
            x.insert(40, 1);
            x.sync();
            x.insert(300, 2);
            x.delete(0);
        };
        int[] wrong = {-1, 3, 4, Integer.MIN_VALUE, Integer.MAX_VALUE};
        for (int k : wrong) {
            CHECK.dueThrowAndSame("crash(" + k + ")", IllegalArgumentException.class, scene, x -> x.crash(k));
        }
        CHECK.dueThrowAndSame("crash(1) of none", IllegalArgumentException.class, x -> { }, x -> x.crash(1));
    }
}
