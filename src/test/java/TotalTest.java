/** Promise 13. */
public final class TotalTest {
    private static final Check CHECK = new Check();

    public static void main(String[] args) {
        SlotFile file = new SlotFile();
        CHECK.dueTotals(file, 0, 96, 0, 0, 0, 0, 0, 0);
        file.insert(100, 1);
        file.insert(60, 1);
        file.insert(60, 1);
        CHECK.dueTotals(file, 3, 95, 1, 0, 0, 3, 0, 0);
        file.update(1, 90, 1);
        CHECK.dueTotals(file, 3, 94, 2, 0, 1, 4, 0, 0);
        file.insert(600, 1);
        CHECK.dueTotals(file, 4, 91, 2, 3, 1, 5, 0, 0);
        file.sync();
        CHECK.dueTotals(file, 4, 91, 2, 3, 1, 0, 0, 0);
        file.update(0, 10, 1);
        file.update(1, 80, 1);
        CHECK.dueTotals(file, 4, 92, 1, 3, 0, 2, 1, 0);
        file.crash(1);
        CHECK.dueTotals(file, 4, 91, 2, 3, 1, 0, 1, 1);
        file.delete(1);
        CHECK.dueTotals(file, 3, 92, 1, 3, 0, 1, 1, 1);
        file.crash(0);
        CHECK.dueTotals(file, 4, 91, 2, 3, 1, 0, 1, 2);
        int[] wrong = {-1, 8, Integer.MIN_VALUE, Integer.MAX_VALUE};
        for (int what : wrong) {
            CHECK.dueThrow("total(" + what + ")", IllegalArgumentException.class, () -> file.total(what));
        }
        CHECK.end();
    }
}
