/** A long run: crashes and syncs between changes of all kinds, and changes made behind a crash. */
public final class CrashRunTest {
    private static final Check CHECK = new Check();

    public static void main(String[] args) {
        Story story = new Story(CHECK);
        whileAValueIsAway(story);
        whileAChainIsTakenAgain(story);
        whileAnotherGoesAway(story);
        afterDeletes(story);
        story.check();
        CHECK.end();
    }

    private static void whileAValueIsAway(Story story) {
        story.insert(100, 1, 0).insert(100, 2, 1).insert(24, 3, 2).insert(4, 4, 3)
            .sync(4).totals(4, 95, 1, 0, 0, 0, 0, 0)
            .update(3, 50, 5).at(3, 1, 0)
            .insert(300, 6, 33).chain(33, 1, 1, 2, 3).cells(1, 2, 2, 176, 64, 5, 0).totals(5, 92, 2, 2, 1, 2, 0, 0)
            .crash(1, 1).at(3, 1, 0).cells(1, 1, 1, 189, 55, 6, 0).free(2, 3).noRecords(33)
            .totals(4, 94, 2, 0, 1, 0, 0, 1)
            .update(3, 700, 7).chain(3, 1, 0, 2, 3, 4).cells(1, 1, 1, 231, 55, 7, 0)
            .delete(0, 100).cells(0, 4, 3, 101, 232, 3, 1)
            .update(3, 20, 8).at(3, 0, 3).cells(0, 4, 3, 85, 126 + 21, 2, 0).free(1, 2, 3, 4)
            .totals(3, 95, 1, 0, 0, 3, 1, 1)
            // Away and long once more; that it was compacted stays counted.
            .crash(2, 1).chain(3, 1, 0, 2, 3, 4).cells(0, 4, 3, 101, 232, 3, 1).cells(1, 1, 1, 231, 55, 7, 0)
            .value(3, 700, 7).totals(3, 91, 2, 3, 1, 0, 1, 2)
            .update(3, 30, 9).at(3, 0, 3).cells(0, 4, 3, 75, 126 + 31, 2, 0).free(1, 2, 3, 4)
            .totals(3, 95, 1, 0, 0, 1, 2, 2)
            .sync(1).totals(3, 95, 1, 0, 0, 0, 2, 2);
    }

    private static void whileAChainIsTakenAgain(Story story) {
        story.insert(100, 10, 32).cells(1, 1, 1, 143, 101, 4, 0)
            .crash(0, 1).free(1).noRecords(32).totals(3, 95, 1, 0, 0, 0, 2, 3)
            .insert(1200, 11, 0).chain(0, 0, 0, 1, 2, 3, 4, 5).cells(0, 4, 4, 66, 166, 2, 0)
            .crash(1, 0).chain(0, 0, 0, 1, 2, 3, 4, 5).totals(4, 90, 1, 5, 0, 0, 2, 4)
            .delete(0, 1200).free(1, 2, 3, 4, 5).cells(0, 4, 3, 75, 166, 2, 0)
            .insert(50, 12, 0).cells(0, 4, 4, 24, 217, 0, 0).totals(4, 95, 1, 0, 0, 2, 2, 4)
            .crash(0, 2).chain(0, 0, 0, 1, 2, 3, 4, 5).cells(0, 4, 4, 66, 166, 2, 0).value(0, 1200, 11)
            .totals(4, 90, 1, 5, 0, 0, 2, 5)
            .update(0, 1000, 12).chain(0, 0, 0, 6, 7, 8, 9, 10).free(1, 2, 3, 4, 5)
            .update(0, 101, 13).chain(0, 0, 0, 1).free(6, 7, 8, 9, 10)
            .crash(1, 1).chain(0, 0, 0, 6, 7, 8, 9, 10).free(1).value(0, 1000, 12)
            .totals(4, 90, 1, 5, 0, 0, 2, 6);
    }

    private static void whileAnotherGoesAway(Story story) {
        // 76 bytes are one more than 9 and 66.
        story.update(0, 75, 14).at(0, 1, 0).cells(0, 4, 4, 70, 166, 2, 1).cells(1, 1, 1, 164, 80, 5, 0)
            .free(6, 7, 8, 9, 10).totals(4, 94, 2, 0, 1, 1, 2, 6)
            .insert(100, 15, 33).cells(1, 2, 2, 59, 181, 1, 0)
            .insert(50, 16, 4).cells(0, 5, 5, 15, 217, 0, 1)
            .update(0, 100, 17).at(0, 1, 0).cells(1, 2, 2, 34, 101 + 105, 1, 0).totals(6, 94, 2, 0, 1, 4, 3, 6)
            .crash(2, 2).at(0, 1, 0).value(0, 75, 14).cells(1, 2, 2, 59, 181, 1, 0).cells(0, 4, 4, 70, 166, 2, 1)
            .noRecords(4).totals(5, 94, 2, 0, 1, 0, 3, 7)
            .update(0, 74, 18).at(0, 0, 0).cells(0, 4, 4, 0, 157 + 75, 0, 0).cells(1, 2, 1, 139, 181, 4, 0)
            .totals(5, 94, 2, 0, 0, 1, 4, 7)
            .crash(0, 1).at(0, 1, 0).value(0, 75, 14).cells(0, 4, 4, 70, 166, 2, 1).cells(1, 2, 2, 59, 181, 1, 0)
            .totals(5, 94, 2, 0, 1, 0, 4, 8);
    }

    private static void afterDeletes(Story story) {
        story.delete(33, 100).cells(1, 1, 1, 164, 181, 5, 0).slots(1, 3)
            .delete(0, 75).free(1).cells(0, 4, 3, 75, 166, 2, 0).slots(0, 0, 1, 1, 1)
            .totals(3, 95, 1, 0, 0, 2, 4, 8)
            .insert(300, 19, 0).chain(0, 0, 0, 1, 2).cells(0, 4, 4, 66, 175, 2, 0)
            .crash(2, 1).free(1, 2).noRecords(0).cells(0, 4, 3, 75, 166, 2, 0).totals(3, 95, 1, 0, 0, 0, 4, 9)
            .insert(240, 20, 0).chain(0, 0, 0, 1).cells(0, 4, 4, 66, 175, 2, 0).totals(4, 94, 1, 1, 0, 1, 4, 9)
            .sync(1)
            .crash(0, 0).chain(0, 0, 0, 1).value(0, 240, 20).records(0, 1, 2, 3)
            .totals(4, 94, 1, 1, 0, 0, 4, 10);
    }
}
