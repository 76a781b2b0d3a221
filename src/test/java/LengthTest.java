/** Promise 5. */
public final class LengthTest {
    public static void main(String[] args) {
        Check check = new Check();
        SlotFile file = new SlotFile();
        file.insert(0, 1);
        file.insert(100, 1);
        file.insert(100, 1);
        int longOne = file.insert(1200, 1);
        check.due("length(0)", file.length(0), 0);
        check.due("length(1)", file.length(1), 100);
        check.due("length of a long one", file.length(longOne), 1200);
        file.update(0, 99, 2);
        check.due("away", file.slot(0, 0), 2);
        check.due("length away", file.length(0), 99);
        int away = 32 * file.where(0, 0) + file.where(0, 1);
        check.due("a cell that is away is no record", file.length(away), SlotFile.NONE);
        file.delete(1);
        int[] noRecords = {1, 4, 31, 3071, 3072, -1, Integer.MIN_VALUE, Integer.MAX_VALUE};
        for (int record : noRecords) {
            check.due("length(" + record + ")", file.length(record), SlotFile.NONE);
        }
        check.end();
    }
}
