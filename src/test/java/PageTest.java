/** Promise 9. */
public final class PageTest {
    private static final Check CHECK = new Check();

    public static void main(String[] args) {
        SlotFile file = new SlotFile();
        due(file, 0, 0, -1, -1, -1, -1, -1, -1, -1, -1);
        file.insert(50, 1);
        due(file, 0, 1, 1, 1, 193, 51, 6, 0, -1, -1);
        file.insert(500, 1);
        due(file, 0, 1, 2, 2, 180, 60, 5, 0, -1, -1);
        due(file, 1, 2, -1, -1, -1, -1, -1, -1, 2, 240);
        due(file, 2, 2, -1, -1, -1, -1, -1, -1, 3, 240);
        due(file, 3, 2, -1, -1, -1, -1, -1, -1, -1, 20);
        due(file, 95, 0, -1, -1, -1, -1, -1, -1, -1, -1);
        file.insert(100, 1);
        file.insert(66, 1);
        due(file, 0, 1, 4, 4, 4, 228, 0, 0, -1, -1);
        file.update(0, 60, 1);
        due(file, 0, 1, 4, 4, 50, 228, 1, 1, -1, -1);
        due(file, 4, 1, 1, 1, 179, 65, 5, 0, -1, -1);
        file.delete(2);
        due(file, 0, 1, 4, 3, 151, 228, 4, 1, -1, -1);
        file.delete(3);
        due(file, 0, 1, 2, 2, 226, 228, 7, 1, -1, -1);
        file.delete(1);
        due(file, 1, 0, -1, -1, -1, -1, -1, -1, -1, -1);
        due(file, 0, 1, 1, 1, 239, 228, 7, 1, -1, -1);
        file.delete(0);
        due(file, 0, 0, -1, -1, -1, -1, -1, -1, -1, -1);
        due(file, 4, 0, -1, -1, -1, -1, -1, -1, -1, -1);
        wrongInputs(file);
        CHECK.end();
    }

    private static void due(SlotFile file, int page, int... wanted) {
        for (int what = 0; what < 9; what++) {
            CHECK.due("page(" + page + ", " + what + ")", file.page(page, what), wanted[what]);
        }
    }

    private static void wrongInputs(SlotFile file) {
        int[][] wrong = {{-1, 0}, {96, 0}, {0, -1}, {0, 9}, {Integer.MIN_VALUE, 0}, {Integer.MAX_VALUE, 8},
            {0, Integer.MIN_VALUE}, {95, Integer.MAX_VALUE}};
        for (int[] row : wrong) {
            CHECK.dueThrow("page(" + row[0] + ", " + row[1] + ")", IllegalArgumentException.class,
                () -> file.page(row[0], row[1]));
        }
    }
}
