/** A long run: stubs whose value moves more than once and comes home. */
public final class MovesRunTest {
    private static final Check CHECK = new Check();

    public static void main(String[] args) {
        Story story = new Story(CHECK);
        threePlaces(story);
        home(story);
        others(story);
        story.check();
        story.checkCrashes();
        CHECK.end();
    }

    private static void threePlaces(Story story) {
        story.insert(100, 1, 0).insert(100, 2, 1).insert(24, 3, 2).insert(4, 4, 3)
            .update(3, 50, 5).at(3, 1, 0)
            .insert(100, 6, 33).cells(1, 2, 2, 84, 156, 2, 0)
            // 80 and 4 are no class times 31, but all the room there is.
            .insert(79, 7, 34).cells(1, 3, 3, 0, 236, 0, 0).totals(6, 94, 2, 0, 1, 7, 0, 0)
            .update(3, 300, 8).chain(3, 1, 0, 2, 3).cells(1, 3, 3, 42, 236, 1, 0)
            .insert(37, 9, 35).cells(1, 4, 4, 0, 13 + 101 + 80 + 38, 0, 0).slots(1, 3, 1, 1, 1)
            .totals(7, 92, 2, 2, 1, 9, 1, 0)
            // From page 1 to page 4: its chain, pages 2 and 3, is not free yet.
            .update(3, 20, 10).at(3, 4, 0).cells(4, 1, 1, 219, 25, 7, 0).slots(4, 3).free(2, 3)
            .cells(1, 4, 3, 13, 232, 0, 0).slots(1, 0, 1, 1, 1).cells(0, 4, 4, 0, 232, 0, 1)
            .totals(7, 93, 3, 0, 1, 10, 1, 0)
            .insert(200, 11, 129).chain(129, 4, 1, 2).cells(4, 2, 2, 206, 34, 6, 0)
            .insert(100, 12, 130).cells(4, 3, 3, 101, 135, 3, 0)
            .insert(96, 13, 131).cells(4, 4, 4, 0, 232, 0, 0).totals(10, 92, 3, 1, 1, 13, 1, 0)
            // From page 4 to page 3.
            .update(3, 21, 14).at(3, 3, 0).cells(3, 1, 1, 218, 26, 7, 0).slots(3, 3)
            .cells(4, 4, 3, 25, 232, 0, 0).slots(4, 0, 1, 1, 1).slots(0, 1, 1, 1, 2).value(3, 21, 14)
            .totals(10, 91, 4, 1, 1, 14, 1, 0)
            .update(3, 8, 15).at(3, 3, 0).cells(3, 1, 1, 231, 26, 7, 0);
    }

    private static void home(Story story) {
        story.delete(0, 100).cells(0, 4, 3, 101, 232, 3, 1).slots(0, 0, 1, 1, 2)
            .update(3, 8, 16).at(3, 0, 3).cells(0, 4, 3, 97, 126 + 9, 3, 0).slots(0, 0, 1, 1, 1).free(3)
            .value(3, 8, 16).totals(9, 92, 3, 1, 0, 17, 2, 0)
            .update(3, 100, 17).at(3, 0, 3).cells(0, 4, 3, 5, 126 + 101, 0, 0).totals(9, 92, 3, 1, 0, 18, 3, 0)
            .insert(1, 18, 32).cells(1, 4, 4, 8, 219 + 5, 0, 0).slots(1, 1, 1, 1, 1)
            .totals(10, 92, 3, 1, 0, 19, 4, 0);
    }

    private static void others(Story story) {
        story.update(2, 30, 20).at(2, 3, 0).cells(0, 4, 3, 25, 227, 0, 1).slots(0, 0, 1, 2, 1)
            .cells(3, 1, 1, 209, 35, 6, 0).totals(10, 91, 4, 1, 1, 20, 4, 0)
            .update(2, 29, 21).at(2, 0, 2).cells(0, 4, 3, 0, 101 + 101 + 30, 0, 0).free(3)
            .totals(10, 92, 3, 1, 0, 21, 5, 0)
            .update(2, 60, 22).at(2, 3, 0).cells(0, 4, 3, 25, 232, 0, 1).cells(3, 1, 1, 179, 65, 5, 0)
            .update(1, 240, 23).chain(1, 0, 1, 5).cells(0, 4, 3, 117, 232, 3, 1)
            .totals(10, 90, 4, 2, 1, 23, 5, 0)
            .update(2, 100, 24).at(2, 0, 2).cells(0, 4, 3, 21, 9 + 101 + 101, 0, 0).free(3)
            .totals(10, 91, 3, 2, 0, 24, 6, 0)
            .update(1, 40, 25).at(1, 3, 0).cells(0, 4, 3, 25, 211, 0, 1).slots(0, 0, 2, 1, 1)
            .cells(3, 1, 1, 199, 45, 6, 0).free(5).totals(10, 91, 4, 1, 1, 25, 6, 0)
            .delete(1, 40).cells(0, 4, 2, 30, 211, 0, 0).slots(0, 0, 0, 1, 1).free(3).noRecords(1, 96)
            .records(2, 3, 32, 33, 34, 35, 129, 130, 131).totals(9, 92, 3, 1, 0, 26, 6, 0);
    }
}
