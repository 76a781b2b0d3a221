/** Promise 1. */
public final class NewObjectTest {
    private static final Check CHECK = new Check();

    public static void main(String[] args) {
        SlotFile file = new SlotFile();
        CHECK.due("NONE", SlotFile.NONE, -1);
        for (int page = 0; page < 96; page++) {
            CHECK.due("page(" + page + ", 0)", file.page(page, 0), 0);
        }
        CHECK.dueTotals(file, 0, 96, 0, 0, 0, 0, 0, 0);
        CHECK.due("next(-1)", file.next(-1), SlotFile.NONE);
        CHECK.due("sync()", file.sync(), 0);
        everyPageOfItsOwnObject();
        objectsAreApart();
        CHECK.end();
    }

    private static void everyPageOfItsOwnObject() {
        for (int page = 0; page < 96; page++) {
            SlotFile file = new SlotFile();
            CHECK.dueFree(file, page);
            for (int slot = 0; slot <= 32; slot++) {
                CHECK.due("slot(" + page + ", " + slot + ")", file.slot(page, slot), SlotFile.NONE);
                CHECK.due("length", file.length(32 * page + slot), SlotFile.NONE);
                CHECK.due("next", file.next(32 * page + slot), SlotFile.NONE);
            }
        }
    }

    private static void objectsAreApart() {
        SlotFile file = new SlotFile();
        SlotFile used = new SlotFile();
        used.insert(10, 1);
        used.insert(300, 2);
        used.crash(1);
        used.insert(20, 3);
        CHECK.dueTotals(file, 0, 96, 0, 0, 0, 0, 0, 0);
        file.insert(40, 4);
        file.crash(0);
        CHECK.dueTotals(file, 0, 96, 0, 0, 0, 0, 0, 1);
        CHECK.dueTotals(used, 2, 95, 1, 0, 0, 1, 0, 1);
        CHECK.due("length(1) of the other", used.length(1), 20);
    }
}
