/** A long run: values that grow and shrink between short and long, and stay at home. */
public final class HomeRunTest {
    private static final Check CHECK = new Check();

    public static void main(String[] args) {
        Story story = new Story(CHECK);
        inAWidePage(story);
        inATightPage(story);
        story.check();
        story.checkCrashes();
        CHECK.end();
    }

    private static void inAWidePage(Story story) {
        story.insert(60, 1, 0).cells(0, 1, 1, 183, 61, 5, 0)
            .insert(300, 2, 1).chain(1, 0, 1, 1, 2).cells(0, 2, 2, 170, 70, 5, 0).totals(2, 93, 1, 2, 0, 2, 0, 0)
            // Long: 9 bytes where 61 were.
            .update(0, 500, 3).chain(0, 0, 0, 3, 4, 5).cells(0, 2, 2, 222, 70, 7, 0).value(0, 500, 3)
            .totals(2, 90, 1, 5, 0, 3, 0, 0)
            // Short: at the end, which is 70.
            .update(0, 60, 4).at(0, 0, 0).cells(0, 2, 2, 170, 70 + 61, 5, 0).free(3, 4, 5).chain(1, 0, 1, 1, 2)
            .update(1, 100, 5).at(1, 0, 1).cells(0, 2, 2, 78, 131 + 101, 2, 0).free(1, 2).value(1, 100, 5)
            .totals(2, 95, 1, 0, 0, 5, 0, 0)
            .update(0, 101, 6).chain(0, 0, 0, 1).cells(0, 2, 2, 130, 232, 4, 0).value(0, 101, 6)
            // 8 bytes are between: compacted without its own 9.
            .update(0, 100, 7).at(0, 0, 0).cells(0, 2, 2, 38, 101 + 101, 1, 0).free(1)
            .totals(2, 95, 1, 0, 0, 7, 1, 0)
            .update(1, 1200, 8).chain(1, 0, 1, 1, 2, 3, 4, 5).cells(0, 2, 2, 130, 202, 4, 0)
            .update(1, 1199, 9).chain(1, 0, 1, 6, 7, 8, 9, 10).free(1, 2, 3, 4, 5).cells(0, 2, 2, 130, 202, 4, 0)
            .value(1, 1199, 9).totals(2, 90, 1, 5, 0, 9, 1, 0)
            .update(1, 0, 10).at(1, 0, 1).cells(0, 2, 2, 134, 202, 4, 0).free(6, 10).value(1, 0, 10)
            .update(1, 5, 11).at(1, 0, 1).cells(0, 2, 2, 133, 202 + 6, 4, 0).value(1, 5, 11)
            .delete(0, 100).cells(0, 2, 1, 234, 208, 7, 0).slots(0, 0, 1).records(1)
            .insert(240, 12, 0).chain(0, 0, 0, 1).cells(0, 2, 2, 225, 217, 7, 0).slots(0, 1, 1)
            .totals(2, 94, 1, 1, 0, 13, 1, 0);
    }

    private static void inATightPage(Story story) {
        story.insert(100, 13, 2).cells(0, 3, 3, 120, 9 + 6 + 101, 3, 0).totals(3, 94, 1, 1, 0, 14, 2, 0)
            .insert(100, 14, 3).cells(0, 4, 4, 15, 217, 0, 0)
            // 24 bytes in place of 9 and 15.
            .update(0, 23, 15).at(0, 0, 0).cells(0, 4, 4, 0, 6 + 101 + 101 + 24, 0, 0).free(1)
            .totals(4, 95, 1, 0, 0, 16, 3, 0)
            .update(0, 1200, 16).chain(0, 0, 0, 1, 2, 3, 4, 5).cells(0, 4, 4, 15, 232, 0, 0)
            // 9 bytes are 3 more than before, and none are between.
            .update(1, 101, 17).chain(1, 0, 1, 6).cells(0, 4, 4, 12, 9 + 101 + 101 + 9, 0, 0)
            .totals(4, 89, 1, 6, 0, 18, 4, 0)
            .update(0, 20, 18).at(0, 0, 0).cells(0, 4, 4, 0, 9 + 101 + 101 + 21, 0, 0).free(1, 2, 3, 4, 5)
            .chain(1, 0, 1, 6).value(0, 20, 18).totals(4, 94, 1, 1, 0, 19, 5, 0)
            .update(1, 8, 19).at(1, 0, 1).cells(0, 4, 4, 0, 232, 0, 0).free(6).value(1, 8, 19)
            .slots(0, 1, 1, 1, 1).records(0, 1, 2, 3).totals(4, 95, 1, 0, 0, 20, 5, 0);
    }
}
