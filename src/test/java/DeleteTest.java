import java.util.NoSuchElementException;
import java.util.function.Consumer;

/** Promise 4. */
public final class DeleteTest {
    private static final Check CHECK = new Check();

    public static void main(String[] args) {
        slotsVanishFromBehind();
        takesChains();
        takesBothCells();
        numbersComeAgain();
        wrongInputs();
        CHECK.end();
    }

    private static void slotsVanishFromBehind() {
        SlotFile file = new SlotFile();
        for (int i = 0; i < 5; i++) {
            file.insert(10 + i, i);
        }
        CHECK.due("delete(2)", file.delete(2), 12);
        CHECK.due("slots stay", file.page(0, 1), 5);
        CHECK.due("cells", file.page(0, 2), 4);
        CHECK.due("room", file.page(0, 3), 248 - 20 - 11 - 12 - 14 - 15);
        CHECK.due("delete(3)", file.delete(3), 13);
        CHECK.due("delete(4)", file.delete(4), 14);
        CHECK.due("three slots vanish", file.page(0, 1), 2);
        CHECK.due("room behind", file.page(0, 3), 248 - 8 - 11 - 12);
        CHECK.due("the end stays", file.page(0, 4), 11 + 12 + 13 + 14 + 15);
        CHECK.due("delete(0)", file.delete(0), 10);
        CHECK.due("of cells", file.page(0, 0), 1);
        CHECK.due("delete(1)", file.delete(1), 11);
        CHECK.due("free", file.page(0, 0), 0);
        file.insert(3, 3);
        CHECK.due("a new page begins anew", file.page(0, 4), 5);
    }

    private static void takesChains() {
        SlotFile file = new SlotFile();
        int one = file.insert(1200, 1);
        int other = file.insert(300, 1);
        CHECK.due("delete", file.delete(one), 1200);
        CHECK.due("chains", file.total(3), 2);
        CHECK.due("delete the other", file.delete(other), 300);
        CHECK.due("all free", file.total(1), 96);
    }

    private static void takesBothCells() {
        SlotFile file = new SlotFile();
        file.insert(100, 1);
        file.insert(100, 1);
        file.insert(33, 1);
        file.update(2, 90, 1);
        CHECK.due("away", file.where(2, 0), 1);
        CHECK.due("delete(2)", file.delete(2), 90);
        CHECK.due("both slots", file.page(0, 1), 2);
        CHECK.due("its page is free", file.page(1, 0), 0);
        CHECK.due("away", file.total(4), 0);
        CHECK.due("records", file.total(0), 2);
        SlotFile withChain = new SlotFile();
        for (int i = 0; i < 27; i++) {
            withChain.insert(0, i);
        }
        withChain.update(3, 1000, 1);
        withChain.update(4, 1000, 1);
        CHECK.due("long and away", withChain.slot(0, 4), 2);
        CHECK.due("delete(4)", withChain.delete(4), 1000);
        CHECK.due("its chain", withChain.total(3), 5);
    }

    private static void numbersComeAgain() {
        SlotFile file = new SlotFile();
        file.insert(1, 1);
        file.insert(2, 2);
        file.delete(0);
        CHECK.due("length(0)", file.length(0), SlotFile.NONE);
        CHECK.due("insert", file.insert(5, 5), 0);
        CHECK.due("length(0) again", file.length(0), 5);
    }

    private static void wrongInputs() {
        Consumer<SlotFile> scene = x -> {
            x.insert(100, 1);
            x.insert(100, 1);
            x.insert(33, 1);
            x.update(2, 90, 1);
            x.insert(30, 1);
            x.delete(0);
        };
        int[] noRecords = {0, 3, 32, 34, 64, 3071, 3072, -1, -32, Integer.MIN_VALUE, Integer.MAX_VALUE};
        for (int record : noRecords) {
            CHECK.dueThrowAndSame("delete(" + record + ")", NoSuchElementException.class, scene,
                x -> x.delete(record));
        }
    }
}
