import java.util.function.Consumer;

/** What has no place, or no free pages for its chain, is refused: nothing changes. */
public final class RefusedEdgesTest {
    private static final Check CHECK = new Check();

    public static void main(String[] args) {
        insertWithoutPagesForItsChain();
        insertWithoutAPlaceBehindItsChain();
        insertWithoutAPlace();
        updateAtHomeWithoutPagesForItsChain();
        updateAtHomeWithoutAPlaceAway();
        updateAtHomeOnlyItsOwnChainWouldBeFree();
        updateAtHomeWithoutAPlaceBehindItsChain();
        updateAwayWithoutPagesForItsChain();
        updateAwayWithoutAnotherPlace();
        updateAwayWithoutAPlaceBehindItsChain();
        deleteIsNeverRefused();
        refusedAndThenNot();
        CHECK.end();
    }

    private static void dueRefusedInsert(Consumer<SlotFile> scene, int length) {
        CHECK.dueAndSame("insert(" + length + ", 9)", SlotFile.NONE, scene, x -> x.insert(length, 9));
    }

    private static void dueRefusedUpdate(Consumer<SlotFile> scene, int record, int length) {
        CHECK.dueAndSame("update(" + record + ", " + length + ", 9)", 0, scene,
            x -> Check.update(x, record, length, 9));
    }

    private static SlotFile at(Consumer<SlotFile> scene) {
        SlotFile file = new SlotFile();
        scene.accept(file);
        return file;
    }

    private static void insertWithoutPagesForItsChain() {
        CHECK.about("no free pages for its chain, is refused (insert)");
        // A page of cells with room 14 for the cell, and four free pages: 92 .. 95.
        Consumer<SlotFile> scene = x -> {
            Scenes.addFullPages(x, 1);
            for (int i = 0; i < 18; i++) {
                x.insert(1200, i);
            }
        };
        SlotFile file = at(scene);
        CHECK.dueCells(file, 6, 18, 18, 14, 162, 0, 0);
        CHECK.dueTotals(file, 21, 4, 2, 90, 0, 21, 0, 0);
        dueRefusedInsert(scene, 961);
        dueRefusedInsert(scene, 1200);
        CHECK.due("four pages of four", file.insert(960, 9), 6 * 32 + 18);
        CHECK.dueChain(file, 92, 93, 240);
        CHECK.dueChain(file, 95, -1, 240);
        CHECK.dueCells(file, 6, 19, 19, 1, 171, 0, 0);
        CHECK.dueTotals(file, 22, 0, 2, 94, 0, 22, 0, 0);
        dueRefusedInsert(scene.andThen(x -> x.insert(960, 9)), 101);
        dueRefusedInsert(scene.andThen(x -> x.insert(960, 9)), 0);
        for (int free = 0; free < 5; free++) {
            int left = free;
            dueRefusedInsert(x -> Scenes.longOnes(x, left), 240 * free + 101);
        }
    }

    private static void insertWithoutAPlaceBehindItsChain() {
        CHECK.about("What has no place (behind its chain) is refused (insert)");
        // The only page of cells has room 1: a long one needs a page more than its chain has.
        for (int free = 1; free <= 4; free++) {
            int left = free;
            Consumer<SlotFile> scene = x -> Scenes.longOnes(x, left);
            dueRefusedInsert(scene, free == 1 ? 101 : 240 * free - 239);
            dueRefusedInsert(scene, 240 * free);
            SlotFile file = at(scene);
            int most = free == 1 ? 100 : 240 * free - 240;
            CHECK.due("insert(" + most + ", 9) with " + free, file.insert(most, 9), 95 * 32);
            CHECK.due("the first of its chain", file.where(95 * 32, 3), free == 1 ? -1 : 96 - free);
            CHECK.due("no page is free", file.total(1), 0);
            CHECK.dueCells(file, 5, 19, 19, 1, 171, 0, 0);
            int room = free == 1 ? 143 : 235;
            CHECK.dueCells(file, 95, 1, 1, room, 244 - room, room / 31, 0);
        }
    }

    private static void insertWithoutAPlace() {
        CHECK.about("What has no place is refused (insert)");
        Consumer<SlotFile> full = x -> Scenes.addFullPages(x, 96);
        for (int length : new int[] {0, 4, 5, 100, 101, 1200}) {
            dueRefusedInsert(full, length);
        }
        dueOneMore(full, 0, 9);
        dueOneMore(full, 4, 9);
        dueOneMore(full, 5, 10);
        dueOneMore(full, 100, 105);
    }

    /** Only page 50 has room: just enough, and one less. */
    private static void dueOneMore(Consumer<SlotFile> full, int length, int need) {
        dueRefusedInsert(full.andThen(x -> Scenes.makeRoom(x, 50, need - 1)), length);
        SlotFile file = at(full.andThen(x -> Scenes.makeRoom(x, 50, need)));
        CHECK.due("insert(" + length + ", 9)", file.insert(length, 9), 50 * 32 + 3);
        CHECK.dueCells(file, 50, 4, 4, 0, 232, 0, 0);
        CHECK.dueTotals(file, 289, 0, 96, 0, 0, 291, 1, 0);
    }

    private static void updateAtHomeWithoutPagesForItsChain() {
        CHECK.about("no free pages for its chain, is refused (update at home)");
        for (int free = 0; free <= 4; free++) {
            int left = free;
            Consumer<SlotFile> scene = x -> Scenes.longOnes(x, left);
            // Its own five pages are not free yet.
            dueRefusedUpdate(scene, 160, free == 0 ? 101 : 240 * free + 1);
            dueRefusedUpdate(scene, 160, 1200);
            SlotFile file = at(scene);
            if (free > 0) {
                CHECK.due("as many pages as are free", file.update(160, 240 * free, 9), true);
                CHECK.dueWhere(file, 160, 5, 0, free, 96 - free);
                CHECK.dueChain(file, 95, -1, 240);
                CHECK.dueFree(file, 0);
                CHECK.dueFree(file, 4);
                CHECK.dueTotals(file, 19, 5, 1, 90, 0, 20, 0, 0);
            }
        }
    }

    private static void updateAtHomeWithoutAPlaceAway() {
        CHECK.about("What has no place is refused (update at home)");
        Consumer<SlotFile> full = x -> Scenes.addFullPages(x, 96);
        dueRefusedUpdate(full, 2, 34);
        dueRefusedUpdate(full, 2, 100);
        dueRefusedUpdate(full, 95 * 32 + 2, 34);
        SlotFile stays = at(full);
        CHECK.due("in place of itself", stays.update(2, 33, 9), true);
        CHECK.due("byteAt(2, 0)", stays.byteAt(2, 0), 9);
        CHECK.dueTotals(stays, 288, 0, 96, 0, 0, 289, 0, 0);
        // 34, 1, 4 and a slot's 4 are 43.
        dueRefusedUpdate(full.andThen(x -> Scenes.makeRoom(x, 95, 42)), 2, 34);
        SlotFile file = at(full.andThen(x -> Scenes.makeRoom(x, 95, 43)));
        CHECK.due("a place away", file.update(2, 34, 9), true);
        CHECK.dueWhere(file, 2, 95, 3, 0, -1);
        CHECK.dueCells(file, 95, 4, 4, 0, 232, 0, 0);
        CHECK.dueCells(file, 0, 3, 3, 29, 236, 0, 1);
        CHECK.dueTotals(file, 288, 0, 96, 0, 1, 291, 1, 0);
        // Room in its own page is no place away.
        dueRefusedUpdate(full.andThen(x -> Scenes.makeRoom(x, 0, 38)), 2, 72);
        SlotFile home = at(full.andThen(x -> Scenes.makeRoom(x, 0, 38)));
        CHECK.due("34 and 38 bytes", home.update(2, 71, 9), true);
        CHECK.dueCells(home, 0, 3, 3, 0, 236, 0, 0);
    }

    private static void updateAtHomeOnlyItsOwnChainWouldBeFree() {
        CHECK.about("a page that its change will free is not free yet (so an update is refused)");
        Consumer<SlotFile> scene = x -> Scenes.longOnes(x, 0);
        // 9 bytes and room 1 are there; more would have to go to one of the chain's five pages.
        dueRefusedUpdate(scene, 160, 10);
        dueRefusedUpdate(scene, 160, 100);
        SlotFile file = at(scene);
        CHECK.due("10 bytes", file.update(160, 9, 9), true);
        CHECK.dueWhere(file, 160, 5, 0, 0, -1);
        CHECK.dueCells(file, 5, 19, 19, 0, 18 * 9 + 10, 0, 0);
        CHECK.dueFree(file, 0);
        CHECK.dueTotals(file, 19, 5, 1, 90, 0, 20, 1, 0);
        SlotFile one = at(x -> Scenes.longOnes(x, 1));
        CHECK.due("a free page for it", one.update(160, 10, 9), true);
        CHECK.dueWhere(one, 160, 95, 0, 0, -1);
        CHECK.dueCells(one, 95, 1, 1, 229, 15, 7, 0);
        CHECK.dueCells(one, 5, 19, 19, 5, 171, 0, 1);
        CHECK.dueTotals(one, 19, 5, 2, 89, 1, 20, 0, 0);
    }

    private static void updateAtHomeWithoutAPlaceBehindItsChain() {
        CHECK.about("What has no place (behind its chain) is refused (update at home)");
        for (int free = 1; free <= 3; free++) {
            int pages = 95 - free;
            Consumer<SlotFile> scene = x -> {
                Scenes.tightHome(x);
                Scenes.addFullPages(x, pages);
            };
            dueRefusedUpdate(scene, 3, free == 1 ? 101 : 240 * free - 239);
            dueRefusedUpdate(scene, 3, 240 * free);
            dueRefusedUpdate(scene, 3, 240 * free + 1);
            int most = free == 1 ? 100 : 240 * free - 240;
            SlotFile file = at(scene);
            CHECK.due("update(3, " + most + ", 9) with " + free, file.update(3, most, 9), true);
            CHECK.dueWhere(file, 3, 95, 0, free - 1, free == 1 ? -1 : 96 - free);
            CHECK.dueCells(file, 0, 4, 4, 0, 232, 0, 1);
            int room = free == 1 ? 139 : 231;
            CHECK.dueCells(file, 95, 1, 1, room, 244 - room, room / 31, 0);
            CHECK.due("no page is free", file.total(1), 0);
        }
    }

    private static Consumer<SlotFile> away(int free) {
        return x -> {
            Scenes.awayInAFullPage(x);
            Scenes.addFullPages(x, 94 - free);
        };
    }

    private static void updateAwayWithoutPagesForItsChain() {
        CHECK.about("no free pages for its chain, is refused (update away)");
        for (int free = 0; free <= 2; free++) {
            dueRefusedUpdate(away(free), 3, free == 0 ? 101 : 240 * free + 1);
            dueRefusedUpdate(away(free), 3, 1200);
            SlotFile file = at(away(free));
            if (free > 0) {
                CHECK.due("13 bytes in place of 55", file.update(3, 240 * free, 9), true);
                CHECK.dueWhere(file, 3, 1, 0, free, 96 - free);
                CHECK.dueCells(file, 1, 3, 3, 42, 236, 1, 0);
                CHECK.dueChain(file, 95, -1, 240);
                CHECK.due("no page is free", file.total(1), 0);
            }
        }
        // Its own chain is not free yet.
        dueRefusedUpdate(away(1).andThen(x -> x.update(3, 240, 9)), 3, 101);
        SlotFile file = at(away(1).andThen(x -> x.update(3, 240, 9)));
        CHECK.due("short again", file.update(3, 50, 9), true);
        CHECK.dueWhere(file, 3, 1, 0, 0, -1);
        CHECK.dueFree(file, 95);
    }

    private static void updateAwayWithoutAnotherPlace() {
        CHECK.about("What has no place is refused (update away)");
        dueRefusedUpdate(away(0), 3, 51);
        dueRefusedUpdate(away(0), 3, 100);
        SlotFile there = at(away(0));
        CHECK.due("55 bytes in place of 55", there.update(3, 50, 9), true);
        CHECK.dueWhere(there, 3, 1, 0, 0, -1);
        CHECK.due("home in place of the stub", there.update(3, 4, 9), true);
        CHECK.dueWhere(there, 3, 0, 3, 0, -1);
        CHECK.dueCells(there, 1, 3, 2, 55, 236, 1, 0);
        // 51, 1, 4 and a slot's 4 are 60.
        dueRefusedUpdate(away(0).andThen(x -> Scenes.makeRoom(x, 95, 59)), 3, 51);
        SlotFile file = at(away(0).andThen(x -> Scenes.makeRoom(x, 95, 60)));
        CHECK.due("another place", file.update(3, 51, 9), true);
        CHECK.dueWhere(file, 3, 95, 3, 0, -1);
        CHECK.dueCells(file, 95, 4, 4, 0, 232, 0, 0);
        CHECK.dueCells(file, 1, 3, 2, 55, 236, 1, 0);
        CHECK.dueCells(file, 0, 4, 4, 0, 232, 0, 1);
        SlotFile free = at(away(1));
        CHECK.due("a free page", free.update(3, 51, 9), true);
        CHECK.dueWhere(free, 3, 95, 0, 0, -1);
    }

    private static void updateAwayWithoutAPlaceBehindItsChain() {
        CHECK.about("What has no place (behind its chain) is refused (update away)");
        for (int free = 1; free <= 3; free++) {
            int pages = 94 - free;
            Consumer<SlotFile> scene = x -> {
                Scenes.leastAwayInAFullPage(x);
                Scenes.addFullPages(x, pages);
            };
            dueRefusedUpdate(scene, 3, free == 1 ? 101 : 240 * free - 239);
            dueRefusedUpdate(scene, 3, 240 * free);
            int most = free == 1 ? 100 : 240 * free - 240;
            SlotFile file = at(scene);
            CHECK.due("update(3, " + most + ", 9) with " + free, file.update(3, most, 9), true);
            CHECK.dueWhere(file, 3, 95, 0, free - 1, free == 1 ? -1 : 96 - free);
            CHECK.dueCells(file, 1, 4, 3, 10, 232, 0, 0);
            CHECK.dueSlots(file, 1, 0, 1, 1, 1);
            CHECK.dueCells(file, 0, 4, 4, 0, 232, 0, 1);
            CHECK.due("no page is free", file.total(1), 0);
        }
    }

    private static void deleteIsNeverRefused() {
        CHECK.about("DELETING takes both cells and chains (of a full file)");
        SlotFile file = at(away(1).andThen(x -> x.update(3, 240, 9)));
        CHECK.due("no page is free", file.total(1), 0);
        CHECK.due("delete(3)", file.delete(3), 240);
        CHECK.dueFree(file, 95);
        CHECK.dueCells(file, 0, 3, 3, 9, 232, 0, 0);
        CHECK.dueCells(file, 1, 3, 2, 55, 236, 1, 0);
    }

    private static void refusedAndThenNot() {
        CHECK.about("is refused: nothing changes (what comes then goes as without it)");
        Consumer<SlotFile> scene = away(1);
        Consumer<SlotFile> then = x -> {
            x.delete(64);
            x.update(3, 90, 8);
            x.insert(240, 9);
            x.update(3, 300, 8);
            x.delete(65);
        };
        CHECK.dueSame("with refused ones before", scene.andThen(then), scene.andThen(x -> {
            CHECK.due("update(3, 241, 7)", x.update(3, 241, 7), false);
            CHECK.due("insert(101, 7)", x.insert(101, 7), -1);
            CHECK.due("update(2, 480, 7)", x.update(2, 480, 7), false);
        }).andThen(then));
    }
}
