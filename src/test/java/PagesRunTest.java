/** A long run: pages that are freed and taken again by cells and by chains. */
public final class PagesRunTest {
    private static final Check CHECK = new Check();

    public static void main(String[] args) {
        Story story = new Story(CHECK);
        fromChainsToCells(story);
        fromCellsToChains(story);
        allFreeAndAnew(story);
        awayInAPageOfAChain(story);
        story.check();
        story.checkCrashes();
        CHECK.end();
    }

    private static void fromChainsToCells(Story story) {
        story.insert(700, 1, 96).chain(96, 3, 0, 0, 1, 2).cells(3, 1, 1, 235, 9, 7, 0)
            .insert(10, 2, 97).cells(3, 2, 2, 220, 20, 7, 0).totals(2, 92, 1, 3, 0, 2, 0, 0)
            .delete(96, 700).free(0, 1, 2).cells(3, 2, 1, 229, 20, 7, 0).slots(3, 0, 1)
            .insert(100, 3, 96).cells(3, 2, 2, 128, 121, 4, 0)
            .insert(100, 4, 98).cells(3, 3, 3, 23, 222, 0, 0)
            // Page 0 was of a chain.
            .insert(50, 5, 0).cells(0, 1, 1, 193, 51, 6, 0).slots(0, 1).totals(4, 94, 2, 0, 0, 6, 0, 0)
            .insert(480, 6, 1).chain(1, 0, 1, 1, 2).cells(0, 2, 2, 180, 60, 5, 0)
            .delete(0, 50).cells(0, 2, 1, 231, 60, 7, 0).slots(0, 0, 1)
            .delete(1, 480).free(0, 1, 2).slots(0).records(96, 97, 98).totals(3, 95, 1, 0, 0, 9, 0, 0);
    }

    private static void fromCellsToChains(Story story) {
        // Page 0 was of cells.
        story.insert(1200, 7, 99).chain(99, 3, 3, 0, 1, 2, 4, 5).cells(3, 4, 4, 10, 231, 0, 0).slots(0)
            .totals(4, 90, 1, 5, 0, 10, 0, 0)
            .update(99, 481, 8).chain(99, 3, 3, 6, 7, 8).free(0, 1, 2, 4, 5)
            // And is again: its end begins anew.
            .insert(100, 9, 0).cells(0, 1, 1, 143, 101, 4, 0).totals(5, 91, 2, 3, 0, 12, 0, 0)
            .update(99, 100, 10).at(99, 0, 1).cells(0, 2, 2, 34, 206, 1, 0).slots(0, 1, 3)
            .cells(3, 4, 4, 14, 231, 0, 1).slots(3, 1, 1, 1, 2).free(6, 7, 8).totals(5, 94, 2, 0, 1, 13, 0, 0)
            .delete(0, 100).cells(0, 2, 1, 135, 206, 4, 0).slots(0, 0, 3).noRecords(0, 1).records(96, 97, 98, 99)
            .delete(99, 100).free(0).cells(3, 3, 3, 23, 231, 0, 0).totals(3, 95, 1, 0, 0, 15, 0, 0)
            .insert(240, 11, 99).chain(99, 3, 3, 0).cells(3, 4, 4, 10, 213 + 9, 0, 0)
            .totals(4, 94, 1, 1, 0, 16, 1, 0);
    }

    private static void allFreeAndAnew(Story story) {
        story.delete(96, 100).delete(97, 10).delete(98, 100).cells(3, 4, 1, 223, 222, 7, 0).slots(3, 0, 0, 0, 1)
            .delete(99, 240).free(0, 3).slots(3).records().totals(0, 96, 0, 0, 0, 20, 1, 0)
            .insert(0, 12, 0).cells(0, 1, 1, 239, 5, 7, 0)
            .insert(101, 13, 1).chain(1, 0, 1, 1).cells(0, 2, 2, 226, 14, 7, 0)
            .update(0, 1200, 14).chain(0, 0, 0, 2, 3, 4, 5, 6).cells(0, 2, 2, 222, 23, 7, 0)
            .totals(2, 89, 1, 6, 0, 23, 1, 0)
            .delete(1, 101).free(1).cells(0, 1, 1, 235, 23, 7, 0).slots(0, 1);
    }

    private static void awayInAPageOfAChain(Story story) {
        story.insert(100, 15, 1).cells(0, 2, 2, 130, 124, 4, 0)
            .insert(100, 16, 2).cells(0, 3, 3, 25, 225, 0, 0)
            .insert(60, 17, 32).cells(1, 1, 1, 183, 61, 5, 0).totals(4, 89, 2, 5, 0, 27, 1, 0)
            .update(0, 100, 18).at(0, 1, 1).cells(1, 2, 2, 74, 166, 2, 0).cells(0, 3, 3, 29, 225, 0, 1)
            .free(2, 3, 4, 5, 6).totals(4, 94, 2, 0, 1, 28, 1, 0)
            .insert(241, 19, 34).chain(34, 1, 2, 2, 3).cells(1, 3, 3, 61, 175, 1, 0).slots(1, 1, 3, 1)
            .delete(32, 60).cells(1, 3, 2, 122, 175, 3, 0).slots(1, 0, 3, 1)
            .delete(0, 100).cells(0, 3, 2, 34, 225, 1, 0).slots(0, 0, 1, 1).cells(1, 3, 1, 227, 175, 7, 0)
            .slots(1, 0, 0, 1).chain(34, 1, 2, 2, 3)
            .delete(34, 241).free(1, 2, 3).records(1, 2).totals(2, 95, 1, 0, 0, 32, 1, 0);
    }
}
