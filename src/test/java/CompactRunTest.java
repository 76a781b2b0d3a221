/** A long run: pages that are compacted while a value moves. */
public final class CompactRunTest {
    private static final Check CHECK = new Check();

    public static void main(String[] args) {
        Story story = new Story(CHECK);
        awayAndHome(story);
        toAThirdPage(story);
        homeOfOneAndPlaceOfAnother(story);
        story.check();
        story.checkCrashes();
        CHECK.end();
    }

    private static void awayAndHome(Story story) {
        story.insert(100, 1, 0).insert(100, 2, 1).insert(33, 3, 2).cells(0, 3, 3, 0, 236, 0, 0)
            .insert(100, 1, 32).insert(100, 2, 33).insert(33, 3, 34).cells(1, 3, 3, 0, 236, 0, 0)
            .update(32, 0, 5).cells(1, 3, 3, 96, 236, 3, 0).totals(6, 94, 2, 0, 0, 7, 0, 0)
            // Where it goes to.
            .update(2, 40, 6).at(2, 1, 3).cells(1, 4, 4, 47, 140 + 45, 1, 0).slots(1, 1, 1, 1, 3)
            .cells(0, 3, 3, 29, 236, 0, 1).totals(6, 94, 2, 0, 1, 8, 1, 0)
            // Its home, which has just as many bytes.
            .update(2, 33, 7).at(2, 0, 2).cells(0, 3, 3, 0, 202 + 34, 0, 0).cells(1, 3, 3, 96, 185, 3, 0)
            .totals(6, 94, 2, 0, 0, 9, 2, 0)
            // None: 51 bytes are between, and it needs 49.
            .update(2, 40, 8).at(2, 1, 3).cells(1, 4, 4, 47, 185 + 45, 1, 0).cells(0, 3, 3, 29, 236, 0, 1)
            .totals(6, 94, 2, 0, 1, 10, 2, 0)
            // Where it is: without itself.
            .update(2, 60, 9).at(2, 1, 3).cells(1, 4, 4, 27, 140 + 65, 0, 0).value(2, 60, 9)
            .totals(6, 94, 2, 0, 1, 11, 3, 0);
    }

    private static void toAThirdPage(Story story) {
        story.update(2, 100, 10).at(2, 2, 0).cells(2, 1, 1, 139, 105, 4, 0).cells(1, 3, 3, 96, 205, 3, 0)
            .totals(6, 93, 3, 0, 1, 12, 3, 0)
            .update(33, 300, 11).chain(33, 1, 1, 3, 4).cells(1, 3, 3, 188, 205, 6, 0)
            .insert(100, 12, 65).cells(2, 2, 2, 34, 206, 1, 0)
            .insert(29, 13, 35).cells(1, 4, 4, 154, 48 + 30, 4, 0).totals(8, 91, 3, 2, 1, 15, 4, 0)
            .update(2, 33, 14).at(2, 0, 2).cells(0, 3, 3, 0, 202 + 34, 0, 0).cells(2, 2, 1, 139, 206, 4, 0)
            .slots(2, 0, 1).totals(8, 91, 3, 2, 0, 16, 5, 0);
    }

    private static void homeOfOneAndPlaceOfAnother(Story story) {
        // Pages 1 and 2 are both of class 4.
        story.update(2, 90, 15).at(2, 1, 4).cells(1, 5, 5, 55, 78 + 95, 1, 0).cells(0, 3, 3, 29, 236, 0, 1)
            .totals(8, 91, 3, 2, 1, 17, 5, 0)
            .update(33, 100, 16).at(33, 2, 0).cells(2, 2, 2, 34, 101 + 105, 1, 0).slots(2, 3, 1)
            .cells(1, 5, 5, 59, 173, 1, 1).slots(1, 1, 2, 1, 1, 3).free(3, 4).totals(8, 93, 3, 0, 2, 18, 6, 0)
            .update(2, 95, 17).at(2, 1, 4).cells(1, 5, 5, 54, 74 + 100, 1, 1).totals(8, 93, 3, 0, 2, 19, 7, 0)
            // 59 bytes in place of 5 and 54; 54 are between.
            .update(33, 58, 18).at(33, 1, 1).cells(1, 5, 5, 0, 169 + 59, 0, 0).slots(1, 1, 1, 1, 1, 3)
            .cells(2, 2, 1, 139, 206, 4, 0).totals(8, 93, 3, 0, 1, 20, 8, 0)
            // 101 bytes are one more than there; page 2 is compacted, page 1 loses a slot.
            .update(2, 96, 19).at(2, 2, 0).cells(2, 2, 2, 38, 101 + 101, 1, 0).slots(2, 3, 1)
            .cells(1, 4, 4, 104, 228, 3, 0).slots(1, 1, 1, 1, 1).totals(8, 93, 3, 0, 1, 21, 9, 0)
            .update(2, 33, 20).at(2, 0, 2).cells(0, 3, 3, 0, 202 + 34, 0, 0).cells(2, 2, 1, 139, 202, 4, 0)
            .value(2, 33, 20).value(33, 58, 18).records(0, 1, 2, 32, 33, 34, 35, 65)
            .totals(8, 93, 3, 0, 0, 22, 10, 0);
    }
}
