/** A long run: a value that grows and shrinks between short and long while it is away, and comes home as both. */
public final class AwayRunTest {
    private static final Check CHECK = new Check();

    public static void main(String[] args) {
        Story grows = new Story(CHECK);
        aloneInItsPage(grows);
        besideOthers(grows);
        homeAndAwayAgain(grows);
        grows.check();
        grows.checkCrashes();
        Story leaves = new Story(CHECK);
        leavesAsALongOne(leaves);
        comesHomeAsALongOne(leaves);
        isDeletedAsALongOne(leaves);
        leaves.check();
        leaves.checkCrashes();
        CHECK.end();
    }

    private static void aloneInItsPage(Story story) {
        story.insert(100, 1, 0).insert(100, 2, 1).insert(24, 3, 2).insert(4, 4, 3).cells(0, 4, 4, 0, 232, 0, 0)
            .update(3, 50, 5).at(3, 1, 0).cells(0, 4, 4, 0, 232, 0, 1).slots(0, 1, 1, 1, 2)
            .cells(1, 1, 1, 189, 55, 6, 0).slots(1, 3).totals(4, 94, 2, 0, 1, 5, 0, 0)
            // Long: 13 bytes where 55 were.
            .update(3, 700, 6).chain(3, 1, 0, 2, 3, 4).cells(1, 1, 1, 231, 55, 7, 0).value(3, 700, 6)
            .totals(4, 91, 2, 3, 1, 6, 0, 0)
            .update(3, 90, 7).at(3, 1, 0).cells(1, 1, 1, 149, 55 + 95, 4, 0).free(2, 3, 4).value(3, 90, 7)
            .update(3, 1200, 8).chain(3, 1, 0, 2, 3, 4, 5, 6).cells(1, 1, 1, 231, 150, 7, 0)
            .update(3, 240, 9).chain(3, 1, 0, 7).free(2, 3, 4, 5, 6).cells(1, 1, 1, 231, 150, 7, 0)
            .totals(4, 93, 2, 1, 1, 9, 0, 0)
            // 94 bytes are between: compacted without itself, so to nothing.
            .update(3, 95, 10).at(3, 1, 0).cells(1, 1, 1, 144, 100, 4, 0).free(7).totals(4, 94, 2, 0, 1, 10, 1, 0);
    }

    private static void besideOthers(Story story) {
        story.insert(100, 11, 33).cells(1, 2, 2, 39, 201, 1, 0).slots(1, 3, 1)
            .update(3, 101, 12).chain(3, 1, 0, 2).cells(1, 2, 2, 126, 201, 4, 0)
            .insert(100, 13, 34).cells(1, 3, 3, 21, 13 + 101 + 101, 0, 0).totals(6, 93, 2, 1, 1, 13, 2, 0)
            // 35 bytes are one more than 13 and 21; its chain's page is not free yet.
            .update(3, 30, 14).at(3, 3, 0).cells(3, 1, 1, 209, 35, 6, 0).slots(3, 3).free(2)
            .cells(1, 3, 2, 34, 215, 1, 0).slots(1, 0, 1, 1).cells(0, 4, 4, 0, 232, 0, 1)
            .totals(6, 93, 3, 0, 1, 14, 2, 0)
            .update(3, 29, 15).at(3, 3, 0).cells(3, 1, 1, 210, 35, 6, 0).value(3, 29, 15)
            .delete(0, 100).cells(0, 4, 3, 101, 232, 3, 1).slots(0, 0, 1, 1, 2).records(1, 2, 3, 33, 34)
            // Home as a long one; the page where it was is not free yet.
            .update(3, 600, 16).chain(3, 0, 3, 2, 4, 5).free(3).cells(0, 4, 3, 97, 126 + 9, 3, 0)
            .slots(0, 0, 1, 1, 1).value(3, 600, 16).totals(5, 91, 2, 3, 0, 17, 3, 0);
    }

    private static void homeAndAwayAgain(Story story) {
        story.update(3, 100, 17).at(3, 0, 3).cells(0, 4, 3, 5, 126 + 101, 0, 0).free(2, 4, 5)
            .totals(5, 94, 2, 0, 0, 18, 4, 0)
            .update(3, 106, 18).chain(3, 0, 3, 2).cells(0, 4, 3, 97, 227, 3, 0)
            .insert(88, 19, 0).cells(0, 4, 4, 8, 135 + 89, 0, 0).totals(6, 93, 2, 1, 0, 20, 5, 0)
            // 18 bytes are one more than 9 and 8; 22 and 4 are there in page 1, but 21 between.
            .update(3, 17, 20).at(3, 1, 0).cells(0, 4, 4, 12, 224, 0, 1).cells(1, 3, 3, 12, 202 + 22, 0, 0)
            .slots(0, 1, 1, 1, 2).slots(1, 3, 1, 1).free(2).value(3, 17, 20).totals(6, 94, 2, 0, 1, 21, 6, 0)
            .update(3, 1200, 21).chain(3, 0, 3, 2, 3, 4, 5, 6).cells(0, 4, 4, 8, 215 + 9, 0, 0)
            .cells(1, 3, 2, 34, 224, 1, 0).slots(1, 0, 1, 1).value(3, 1200, 21)
            .records(0, 1, 2, 3, 33, 34).totals(6, 89, 2, 5, 0, 22, 7, 0);
    }

    private static void leavesAsALongOne(Story story) {
        story.insert(100, 1, 0).insert(100, 2, 1).insert(24, 3, 2).insert(4, 4, 3)
            // Its home, and the page where it is then, have less than its 9 and 13 bytes.
            .update(3, 480, 5).chain(3, 3, 0, 1, 2).cells(3, 1, 1, 231, 13, 7, 0).cells(0, 4, 4, 0, 232, 0, 1)
            .totals(4, 92, 2, 2, 1, 5, 0, 0)
            .update(3, 5, 6).at(3, 3, 0).cells(3, 1, 1, 234, 13, 7, 0).free(1, 2)
            .insert(100, 7, 97).insert(100, 8, 98).cells(3, 3, 3, 24, 215, 0, 0)
            .insert(19, 9, 99).cells(3, 4, 4, 0, 212 + 20, 0, 0).slots(3, 3, 1, 1, 1)
            .totals(7, 94, 2, 0, 1, 9, 1, 0)
            .update(3, 961, 10).chain(3, 7, 0, 1, 2, 4, 5, 6).cells(7, 1, 1, 231, 13, 7, 0).slots(7, 3)
            .cells(3, 4, 3, 10, 232, 0, 0).slots(3, 0, 1, 1, 1).value(3, 961, 10)
            .totals(7, 88, 3, 5, 1, 10, 1, 0);
    }

    private static void comesHomeAsALongOne(Story story) {
        story.update(3, 960, 11).chain(3, 7, 0, 8, 9, 10, 11).free(1, 2, 4, 5, 6).cells(7, 1, 1, 231, 13, 7, 0)
            .delete(99, 19).cells(3, 3, 2, 34, 232, 1, 0).slots(3, 0, 1, 1)
            .update(3, 8, 12).at(3, 7, 0).cells(7, 1, 1, 231, 13, 7, 0).free(8, 9, 10, 11)
            .totals(6, 93, 3, 0, 1, 13, 1, 0)
            .update(3, 240, 13).chain(3, 7, 0, 1)
            .update(2, 20, 14).cells(0, 4, 4, 4, 232, 0, 1)
            // 9 bytes in place of 5 and 4; pages 1 and 7 are not free yet.
            .update(3, 241, 15).chain(3, 0, 3, 2, 4).free(1, 7).cells(0, 4, 4, 0, 223 + 9, 0, 0)
            .slots(0, 1, 1, 1, 1).value(3, 241, 15).totals(6, 92, 2, 2, 0, 16, 2, 0);
    }

    private static void isDeletedAsALongOne(Story story) {
        story.update(3, 9, 16).at(3, 3, 0).cells(3, 3, 3, 20, 202 + 14, 0, 0).slots(3, 3, 1, 1).free(2, 4)
            .cells(0, 4, 4, 4, 232, 0, 1).totals(6, 94, 2, 0, 1, 17, 3, 0)
            .update(2, 21, 18).cells(0, 4, 4, 3, 207 + 22, 0, 1)
            .update(3, 1200, 19).chain(3, 3, 0, 1, 2, 4, 5, 6).cells(3, 3, 3, 21, 216, 0, 0)
            .totals(6, 89, 2, 5, 1, 19, 4, 0)
            .delete(3, 1200).cells(0, 3, 3, 12, 229, 0, 0).slots(0, 1, 1, 1).cells(3, 3, 2, 34, 216, 1, 0)
            .slots(3, 0, 1, 1).free(1, 2, 4, 5, 6).noRecords(3, 96).totals(5, 94, 2, 0, 0, 20, 4, 0)
            .insert(240, 20, 96).chain(96, 3, 0, 1).cells(3, 3, 3, 25, 225, 0, 0).slots(3, 1, 1, 1)
            .records(0, 1, 2, 96, 97, 98).totals(6, 93, 2, 1, 0, 21, 4, 0);
    }
}
