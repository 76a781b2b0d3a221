/** Files that several tests begin with; what they are like is told by the document's numbers, by hand. */
final class Scenes {
    private Scenes() {
    }

    /**
     * The least free pages get cells of 101, 101 and 34 bytes: three slots and 236 bytes, all there is. Every
     * page of cells that is there before must be without room for these.
     */
    static void addFullPages(SlotFile file, int count) {
        for (int i = 0; i < count; i++) {
            file.insert(100, 1);
            file.insert(100, 2);
            file.insert(33, 3);
        }
    }

    /** Makes cells of a full page smaller until it has this room, 0 .. 192; its end stays 236. */
    static void makeRoom(SlotFile file, int page, int room) {
        int first = Math.min(room, 96);
        file.update(32 * page, 100 - first, 1);
        file.update(32 * page + 1, 100 - (room - first), 2);
    }

    /** One page without room whose record 3 takes the least: 101, 101, 25, 5 bytes and four slots. */
    static void tightHome(SlotFile file) {
        file.insert(100, 1);
        file.insert(100, 2);
        file.insert(24, 3);
        file.insert(4, 4);
    }

    /** Behind a tight home: its record 3 is away in page 1 (55 bytes of 55, 101, 80), which has no room either. */
    static void awayInAFullPage(SlotFile file) {
        tightHome(file);
        file.update(3, 50, 5);
        file.insert(100, 6);
        file.insert(79, 7);
    }

    /** The same, but what is away takes 10 bytes, the least that it can (10, 101, 101, 20). */
    static void leastAwayInAFullPage(SlotFile file) {
        tightHome(file);
        file.update(3, 5, 5);
        file.insert(100, 6);
        file.insert(100, 7);
        file.insert(19, 8);
    }

    /**
     * Long records from 160 on in page 5, with chains in all other pages but the last ones, as many as shall
     * be free (0 .. 5). Page 5 has room 14 if five are free, and 1 if fewer are.
     */
    static void longOnes(SlotFile file, int free) {
        for (int i = 0; i < 18; i++) {
            file.insert(1200, i);
        }
        if (free < 5) {
            file.insert(240 * (5 - free), 18);
        }
    }
}
