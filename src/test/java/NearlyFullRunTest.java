/** Long runs: a file that is nearly full, of chains and of cells. */
public final class NearlyFullRunTest {
    private static final Check CHECK = new Check();

    public static void main(String[] args) {
        Story chains = new Story(CHECK);
        fullOfChains(chains);
        lastPages(chains);
        pagesAgain(chains);
        chains.check();
        chains.checkCrashes();
        Story tight = new Story(CHECK);
        fullBehindATightHome(tight);
        chainsWithoutAPlace(tight);
        tight.check();
        tight.checkCrashes();
        Story cells = new Story(CHECK);
        fullOfCells(cells);
        onePlaceLeft(cells);
        cells.check();
        CHECK.end();
    }

    private static void fullOfChains(Story story) {
        for (int i = 0; i < 18; i++) {
            story.insert(1200, i, 160 + i);
        }
        story.cells(5, 18, 18, 14, 162, 0, 0).free(91, 95).totals(18, 5, 1, 90, 0, 18, 0, 0)
            .insert(1200, 18, 178).chain(178, 5, 18, 91, 92, 93, 94, 95).cells(5, 19, 19, 1, 171, 0, 0)
            .totals(19, 0, 1, 95, 0, 19, 0, 0)
            .insertRefused(0, 1).insertRefused(1200, 1)
            .updateRefused(178, 101, 1).updateRefused(178, 100, 1).value(178, 1200, 18)
            // 10 bytes in place of 9 and 1.
            .update(178, 9, 19).at(178, 5, 18).cells(5, 19, 19, 0, 162 + 10, 0, 0).free(91, 92, 93, 94, 95)
            .totals(19, 5, 1, 90, 0, 20, 1, 0)
            .update(178, 100, 20).at(178, 91, 0).cells(5, 19, 19, 5, 172, 0, 1).cells(91, 1, 1, 139, 105, 4, 0)
            .totals(19, 4, 2, 90, 1, 21, 1, 0)
            .update(178, 960, 21).chain(178, 5, 18, 92, 93, 94, 95).cells(5, 19, 19, 1, 162 + 9, 0, 0).free(91)
            .totals(19, 1, 1, 94, 0, 22, 2, 0)
            .updateRefused(178, 241, 1).value(178, 960, 21)
            .update(178, 240, 22).chain(178, 5, 18, 91).free(92, 93, 94, 95).totals(19, 4, 1, 91, 0, 23, 2, 0);
    }

    private static void lastPages(Story story) {
        // Four pages are free for the chain, but none is left for its cell.
        story.insertRefused(960, 23)
            .insert(720, 24, 3040).chain(3040, 95, 0, 92, 93, 94).cells(95, 1, 1, 235, 9, 7, 0)
            .totals(20, 0, 2, 94, 0, 24, 2, 0)
            .insertRefused(101, 24)
            .insert(100, 25, 3041).cells(95, 2, 2, 130, 110, 4, 0)
            .update(178, 50, 26).at(178, 95, 2).cells(95, 3, 3, 71, 165, 2, 0).slots(95, 1, 1, 3)
            .cells(5, 19, 19, 5, 171, 0, 1).free(91).totals(21, 1, 2, 93, 1, 26, 2, 0)
            .update(3041, 101, 27).chain(3041, 95, 1, 91).cells(95, 3, 3, 163, 165, 5, 0)
            .totals(21, 0, 2, 94, 1, 27, 2, 0)
            // At home there were 10 bytes for 9, but there is no page.
            .updateRefused(178, 101, 28).at(178, 95, 2)
            .update(3040, 100, 28).at(3040, 95, 0).cells(95, 3, 3, 71, 64 + 101, 2, 0).free(92, 93, 94)
            .totals(21, 3, 2, 91, 1, 28, 3, 0)
            .update(178, 720, 29).chain(178, 5, 18, 92, 93, 94).cells(5, 19, 19, 1, 162 + 9, 0, 0)
            .cells(95, 2, 2, 130, 165, 4, 0).slots(95, 1, 1).totals(21, 0, 2, 94, 0, 29, 4, 0);
    }

    private static void pagesAgain(Story story) {
        story.delete(160, 1200).free(0, 1, 2, 3, 4).cells(5, 19, 18, 10, 171, 0, 0).totals(20, 5, 2, 89, 0, 30, 4, 0)
            .insert(0, 30, 3042).cells(95, 3, 3, 121, 170, 3, 0).cells(5, 19, 18, 10, 171, 0, 0)
            .insert(1200, 31, 3043).chain(3043, 95, 3, 0, 1, 2, 3, 4).cells(95, 4, 4, 108, 179, 3, 0)
            .totals(22, 0, 2, 94, 0, 32, 4, 0)
            .update(3041, 100, 32).at(3041, 95, 1).cells(95, 4, 4, 16, 115 + 101, 0, 0).free(91)
            .totals(22, 1, 2, 93, 0, 33, 5, 0)
            // 22 bytes are one more than 5 and 16: into the last page.
            .update(3042, 21, 33).at(3042, 91, 0).cells(91, 1, 1, 218, 26, 7, 0).cells(95, 4, 4, 16, 216, 0, 1)
            .slots(95, 1, 1, 2, 1).totals(22, 0, 3, 93, 1, 34, 5, 0)
            .updateRefused(3042, 101, 34).insertRefused(240, 34).value(3042, 21, 33)
            .insert(100, 35, 2913).cells(91, 2, 2, 113, 127, 3, 0).slots(91, 3, 1)
            .delete(3042, 21).cells(95, 4, 3, 21, 216, 0, 0).slots(95, 1, 1, 0, 1).cells(91, 2, 1, 139, 127, 4, 0)
            .slots(91, 0, 1).totals(22, 0, 3, 93, 0, 36, 5, 0)
            .delete(2913, 100).free(91)
            .insert(240, 36, 3042).chain(3042, 95, 2, 91).cells(95, 4, 4, 12, 225, 0, 0)
            .totals(22, 0, 2, 94, 0, 38, 5, 0);
    }

    private static void fullBehindATightHome(Story story) {
        story.insert(100, 1, 0).insert(100, 2, 1).insert(24, 3, 2).insert(4, 4, 3);
        for (int i = 0; i < 18; i++) {
            story.insert(1200, i, 192 + i);
        }
        story.cells(6, 18, 18, 14, 162, 0, 0).free(92, 95)
            .insert(720, 18, 210).chain(210, 6, 18, 92, 93, 94).cells(6, 19, 19, 1, 171, 0, 0).free(95)
            .totals(23, 1, 2, 93, 0, 23, 0, 0)
            // The last page would be its chain's, and there is none for its cell.
            .updateRefused(3, 101, 1).updateRefused(3, 240, 1).updateRefused(3, 241, 1)
            .update(3, 100, 5).at(3, 95, 0).cells(95, 1, 1, 139, 105, 4, 0).cells(0, 4, 4, 0, 232, 0, 1)
            .totals(23, 0, 3, 93, 1, 24, 0, 0)
            .updateRefused(3, 101, 6).value(3, 100, 5)
            .insert(100, 7, 3041).cells(95, 2, 2, 34, 206, 1, 0)
            .insert(29, 8, 3042).cells(95, 3, 3, 0, 236, 0, 0).slots(95, 3, 1, 1);
    }

    private static void chainsWithoutAPlace(Story story) {
        story.delete(192, 1200).free(1, 2, 3, 4, 5).cells(6, 19, 18, 10, 171, 0, 0)
            .update(3, 5, 9).at(3, 95, 0).cells(95, 3, 3, 95, 236, 3, 0)
            .insert(90, 10, 3043).cells(95, 4, 4, 0, 141 + 91, 0, 0).totals(25, 5, 3, 88, 1, 29, 1, 0)
            // Five pages for its chain, none for its 13 bytes, and 10 where it is.
            .updateRefused(3, 1200, 11).at(3, 95, 0).value(3, 5, 9)
            .update(3, 960, 12).chain(3, 5, 0, 1, 2, 3, 4).cells(5, 1, 1, 231, 13, 7, 0).slots(5, 3)
            .cells(95, 4, 3, 10, 232, 0, 0).slots(95, 0, 1, 1, 1).totals(25, 0, 4, 92, 1, 30, 1, 0)
            .updateRefused(3, 101, 13)
            .update(3, 7, 14).at(3, 5, 0).cells(5, 1, 1, 232, 13, 7, 0).free(1, 2, 3, 4)
            .totals(25, 4, 4, 88, 1, 31, 1, 0)
            .delete(3, 7).free(5).cells(0, 3, 3, 9, 232, 0, 0).slots(0, 1, 1, 1)
            .insert(4, 15, 3).cells(0, 4, 4, 0, 227 + 5, 0, 0).totals(25, 5, 3, 88, 0, 33, 2, 0);
    }

    private static void fullOfCells(Story story) {
        for (int page = 0; page < 96; page++) {
            story.insert(100, 1, 32 * page).insert(100, 2, 32 * page + 1).insert(33, 3, 32 * page + 2);
        }
        story.cells(95, 3, 3, 0, 236, 0, 0).totals(288, 0, 96, 0, 0, 288, 0, 0)
            .insertRefused(0, 1).insertRefused(101, 1).updateRefused(2, 34, 1).updateRefused(2, 101, 1);
    }

    private static void onePlaceLeft(Story story) {
        story.delete(1601, 100).cells(50, 3, 2, 101, 236, 3, 0).slots(50, 1, 0, 1)
            .update(2, 34, 2).at(2, 50, 1).cells(50, 3, 3, 62, 135 + 39, 2, 0).slots(50, 1, 3, 1)
            .cells(0, 3, 3, 29, 236, 0, 1).totals(287, 0, 96, 0, 1, 290, 1, 0)
            .update(34, 50, 3).at(34, 50, 3).cells(50, 4, 4, 3, 229, 0, 0).cells(1, 3, 3, 29, 236, 0, 1)
            .update(2, 37, 4).at(2, 50, 1).cells(50, 4, 4, 0, 190 + 42, 0, 0).totals(287, 0, 96, 0, 2, 292, 2, 0)
            .updateRefused(2, 38, 5).value(2, 37, 4)
            .sync(292)
            .delete(34, 50).cells(1, 2, 2, 38, 236, 1, 0).slots(1, 1, 1).cells(50, 3, 3, 59, 232, 1, 0)
            .update(2, 38, 6).at(2, 50, 1).cells(50, 3, 3, 58, 135 + 43, 1, 0).totals(286, 0, 96, 0, 1, 2, 3, 0)
            .crash(1, 1).at(2, 50, 1).value(2, 37, 4).cells(50, 3, 3, 59, 232, 1, 0).cells(1, 2, 2, 38, 236, 1, 0)
            .totals(286, 0, 96, 0, 1, 0, 3, 1)
            .update(2, 33, 7).at(2, 0, 2).cells(0, 3, 3, 0, 202 + 34, 0, 0).cells(50, 3, 2, 101, 232, 3, 0)
            .totals(286, 0, 96, 0, 0, 1, 4, 1)
            // 93 and 4 are more than three times 31, but there.
            .insert(92, 8, 1601).cells(50, 3, 3, 8, 135 + 93, 0, 0).totals(287, 0, 96, 0, 0, 2, 5, 1)
            .crash(0, 2).at(2, 50, 1).value(2, 37, 4).cells(50, 3, 3, 59, 232, 1, 0).cells(0, 3, 3, 29, 236, 0, 1)
            .noRecords(34, 1601, 1603).totals(286, 0, 96, 0, 1, 0, 5, 2);
    }
}
