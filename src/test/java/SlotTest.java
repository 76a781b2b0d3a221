/** Promise 10. */
public final class SlotTest {
    private static final Check CHECK = new Check();

    public static void main(String[] args) {
        SlotFile file = new SlotFile();
        CHECK.dueSlots(file, 0);
        file.insert(100, 1);
        file.insert(60, 1);
        file.insert(60, 1);
        CHECK.dueSlots(file, 0, 1, 1, 1);
        file.update(1, 90, 1);
        CHECK.dueSlots(file, 0, 1, 2, 1);
        CHECK.dueSlots(file, 1, 3);
        file.insert(101, 1);
        CHECK.dueSlots(file, 0, 1, 2, 1, 1);
        CHECK.dueSlots(file, 2);
        file.delete(0);
        CHECK.dueSlots(file, 0, 0, 2, 1, 1);
        file.delete(2);
        file.delete(3);
        CHECK.dueSlots(file, 0, 0, 2);
        file.update(1, 10, 1);
        CHECK.dueSlots(file, 0, 0, 1);
        CHECK.dueSlots(file, 1);
        CHECK.due("slot(0, 31)", file.slot(0, 31), -1);
        CHECK.due("slot(0, 32)", file.slot(0, 32), -1);
        CHECK.due("slot(95, 0)", file.slot(95, 0), -1);
        CHECK.due("slot of the greatest", file.slot(0, Integer.MAX_VALUE), -1);
        CHECK.due("slot of the greatest in the last page", file.slot(95, Integer.MAX_VALUE), -1);
        int[][] wrong = {{-1, 0}, {96, 0}, {0, -1}, {95, -1}, {Integer.MIN_VALUE, 0}, {Integer.MAX_VALUE, 0},
            {0, Integer.MIN_VALUE}};
        for (int[] row : wrong) {
            CHECK.dueThrow("slot(" + row[0] + ", " + row[1] + ")", IllegalArgumentException.class,
                () -> file.slot(row[0], row[1]));
        }
        CHECK.end();
    }
}
