/** Promise 1. */
public final class NewObjectTest {
    public static void main(String[] args) {
        Check check = new Check();
        SlotFile file = new SlotFile();
        check.due("NONE", SlotFile.NONE, -1);
        for (int page = 0; page < 96; page++) {
            check.due("page(" + page + ", 0)", file.page(page, 0), 0);
        }
        int[] totals = {0, 96, 0, 0, 0, 0, 0, 0};
        for (int what = 0; what < totals.length; what++) {
            check.due("total(" + what + ")", file.total(what), totals[what]);
        }
        check.due("next(-1)", file.next(-1), SlotFile.NONE);
        check.due("sync()", file.sync(), 0);
        SlotFile used = new SlotFile();
        used.insert(10, 1);
        check.due("another object's records", file.total(0), 0);
        check.end();
    }
}
