/** Promise 8. */
public final class NextTest {
    public static void main(String[] args) {
        Check check = new Check();
        SlotFile file = new SlotFile();
        int[] all = {Integer.MIN_VALUE, -1, 0, 3070, 3071, 3072, Integer.MAX_VALUE};
        for (int record : all) {
            check.due("next(" + record + ") of none", file.next(record), SlotFile.NONE);
        }
        file.insert(100, 1);
        file.insert(100, 1);
        file.insert(33, 1);
        file.insert(240, 1);
        file.insert(20, 1);
        file.update(1, 100, 1);
        file.update(2, 90, 1);
        int away = 32 * file.where(2, 0) + file.where(2, 1);
        check.due("away in page 2, slot 2", away, 66);
        int[][] due = {{Integer.MIN_VALUE, 0}, {-1, 0}, {0, 1}, {1, 2}, {2, 64}, {31, 64}, {32, 64}, {63, 64},
            {64, 65}, {65, -1}, {66, -1}, {3071, -1}, {3072, -1}, {Integer.MAX_VALUE, -1}};
        for (int[] row : due) {
            check.due("next(" + row[0] + ")", file.next(row[0]), row[1]);
        }
        file.delete(1);
        check.due("next(0) behind a deleted one", file.next(0), 2);
        check.due("next(1)", file.next(1), 2);
        theLastPage(check);
        check.end();
    }

    private static void theLastPage(Check check) {
        SlotFile file = new SlotFile();
        for (int i = 0; i < 96 * 2; i++) {
            file.insert(100, 1);
        }
        check.due("the last one", file.next(95 * 32), 95 * 32 + 1);
        check.due("none behind it", file.next(95 * 32 + 1), SlotFile.NONE);
    }
}
