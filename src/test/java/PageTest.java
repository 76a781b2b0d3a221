/** Promise 9. */
public final class PageTest {
    private static final Check CHECK = new Check();

    public static void main(String[] args) {
        SlotFile file = new SlotFile();
        CHECK.duePage(file, 0, 0, -1, -1, -1, -1, -1, -1, -1, -1);
        file.insert(50, 1);
        CHECK.duePage(file, 0, 1, 1, 1, 193, 51, 6, 0, -1, -1);
        file.insert(500, 1);
        CHECK.duePage(file, 0, 1, 2, 2, 180, 60, 5, 0, -1, -1);
        CHECK.duePage(file, 1, 2, -1, -1, -1, -1, -1, -1, 2, 240);
        CHECK.duePage(file, 2, 2, -1, -1, -1, -1, -1, -1, 3, 240);
        CHECK.duePage(file, 3, 2, -1, -1, -1, -1, -1, -1, -1, 20);
        CHECK.duePage(file, 95, 0, -1, -1, -1, -1, -1, -1, -1, -1);
        file.insert(100, 1);
        file.insert(66, 1);
        CHECK.duePage(file, 0, 1, 4, 4, 4, 228, 0, 0, -1, -1);
        file.update(0, 60, 1);
        CHECK.duePage(file, 0, 1, 4, 4, 50, 228, 1, 1, -1, -1);
        CHECK.duePage(file, 4, 1, 1, 1, 179, 65, 5, 0, -1, -1);
        file.delete(2);
        CHECK.duePage(file, 0, 1, 4, 3, 151, 228, 4, 1, -1, -1);
        file.delete(3);
        CHECK.duePage(file, 0, 1, 2, 2, 226, 228, 7, 1, -1, -1);
        file.delete(1);
        CHECK.duePage(file, 1, 0, -1, -1, -1, -1, -1, -1, -1, -1);
        CHECK.duePage(file, 0, 1, 1, 1, 239, 228, 7, 1, -1, -1);
        file.delete(0);
        CHECK.duePage(file, 0, 0, -1, -1, -1, -1, -1, -1, -1, -1);
        CHECK.duePage(file, 4, 0, -1, -1, -1, -1, -1, -1, -1, -1);
        wrongInputs(file);
        CHECK.end();
    }

    private static void wrongInputs(SlotFile file) {
        int[][] wrong = {{-1, 0}, {96, 0}, {0, -1}, {0, 9}, {Integer.MIN_VALUE, 0}, {Integer.MAX_VALUE, 8},
            {0, Integer.MIN_VALUE}, {95, Integer.MAX_VALUE}};
        for (int[] row : wrong) {
            CHECK.dueThrow("page(" + row[0] + ", " + row[1] + ")", IllegalArgumentException.class,
                () -> file.page(row[0], row[1]));
        }
    }
}
