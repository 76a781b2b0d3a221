import java.util.NoSuchElementException;

/** Promise 7. */
public final class WhereTest {
    public static void main(String[] args) {
        Check check = new Check();
        SlotFile file = new SlotFile();
        file.insert(100, 1);
        file.insert(60, 1);
        file.insert(60, 1);
        int longOne = file.insert(700, 1);
        check.dueWhere(file, 0, 0, 0, 0, SlotFile.NONE);
        check.dueWhere(file, 2, 0, 2, 0, SlotFile.NONE);
        check.due("the long one's cell fits by room alone", longOne, 3);
        check.dueWhere(file, longOne, 0, 3, 3, 1);
        file.update(1, 100, 1);
        check.dueWhere(file, 1, 4, 0, 0, SlotFile.NONE);
        file.update(1, 480, 1);
        check.dueWhere(file, 1, 0, 1, 2, 5);
        int[] wrong = {-1, 4, Integer.MIN_VALUE, Integer.MAX_VALUE};
        for (int what : wrong) {
            check.dueThrow("where(1, " + what + ")", IllegalArgumentException.class, () -> file.where(1, what));
            check.dueThrow("where(99, " + what + ")", NoSuchElementException.class, () -> file.where(99, what));
        }
        int[] noRecords = {4, 4 * 32, 3071, 3072, -1, Integer.MIN_VALUE, Integer.MAX_VALUE};
        for (int none : noRecords) {
            for (int w = 0; w < 4; w++) {
                int what = w;
                check.dueThrow("where(" + none + ", " + what + ")", NoSuchElementException.class,
                    () -> file.where(none, what));
            }
        }
        check.end();
    }
}
