/** Questions: what they answer behind the last one, for none, and for every int. */
public final class AnswerEdgesTest {
    private static final Check CHECK = new Check();
    private static final int LEAST = Integer.MIN_VALUE;
    private static final int GREATEST = Integer.MAX_VALUE;

    public static void main(String[] args) {
        lengthOfNone();
        bytesBehindTheEnd();
        lengthOfADeletedOne();
        firstOfNoChain();
        lastPageOfAChain();
        factsOfOtherPages();
        behindTheLastSlot();
        nextOfEveryInt();
        nextInTheLastPage();
        CHECK.end();
    }

    /** Page 0: three values and a stub; page 1: its value, a long one with pages 2 and 3, nothing, a value. */
    private static SlotFile busy() {
        SlotFile file = new SlotFile();
        Scenes.tightHome(file);
        file.update(3, 50, 5);
        file.insert(300, 6);
        file.insert(10, 7);
        file.insert(20, 8);
        file.delete(34);
        return file;
    }

    private static void lengthOfNone() {
        CHECK.about("How long a record's value is; NONE if there is none such");
        SlotFile file = busy();
        int[][] recordAndLength = {{0, 100}, {2, 24}, {3, 50}, {4, -1}, {31, -1}, {32, -1}, {33, 300}, {34, -1},
            {35, 20}, {36, -1}, {64, -1}, {96, -1}, {128, -1}, {3071, -1}, {3072, -1}, {3104, -1}, {-1, -1}, {-32, -1},
            {LEAST, -1}, {LEAST + 32, -1}, {GREATEST, -1}, {GREATEST - 31, -1}};
        for (int[] row : recordAndLength) {
            CHECK.due("length(" + row[0] + ")", file.length(row[0]), row[1]);
        }
        SlotFile empty = new SlotFile();
        for (int record : new int[] {0, -1, 3071, 3072, LEAST, GREATEST}) {
            CHECK.due("length(" + record + ") of none", empty.length(record), -1);
        }
        empty.insert(0, 1);
        CHECK.due("a value of no bytes is there", empty.length(0), 0);
    }

    private static void bytesBehindTheEnd() {
        CHECK.about("Byte i of a record's value; NONE behind its end and for i below 0");
        SlotFile file = busy();
        // Record, length, seed: at home, away, long.
        int[][] rows = {{0, 100, 1}, {3, 50, 5}, {33, 300, 6}, {35, 20, 8}};
        for (int[] row : rows) {
            int last = row[1] - 1;
            String call = "byteAt(" + row[0] + ", ";
            CHECK.due(call + "0)", file.byteAt(row[0], 0), row[2]);
            CHECK.due(call + "1)", file.byteAt(row[0], 1), row[2] + 7);
            CHECK.due(call + last + ")", file.byteAt(row[0], last), (row[2] + 7 * last + last / 16) % 256);
            for (int i : new int[] {row[1], row[1] + 1, 1200, GREATEST, GREATEST - 1, -1, -2, -16, LEAST, LEAST + 1}) {
                CHECK.due(call + i + ")", file.byteAt(row[0], i), -1);
            }
        }
        file.update(0, 0, 9);
        for (int i : new int[] {-1, 0, 1, LEAST, GREATEST}) {
            CHECK.due("byte " + i + " of a value of no bytes", file.byteAt(0, i), -1);
        }
        file.update(0, 1, 9);
        CHECK.due("the only byte", file.byteAt(0, 0), 9);
        CHECK.due("the byte behind the only one", file.byteAt(0, 1), -1);
        file.update(33, 1200, 0);
        CHECK.due("byte 1199", file.byteAt(33, 1199), (7 * 1199 + 74) % 256);
        CHECK.due("byte 1200", file.byteAt(33, 1200), -1);
    }

    private static void lengthOfADeletedOne() {
        CHECK.about("DELETING: how long its value was");
        for (int length : new int[] {0, 1, 4, 5, 100, 101, 240, 241, 1200}) {
            SlotFile file = new SlotFile();
            int record = file.insert(length, 1);
            CHECK.due("delete of " + length, file.delete(record), length);
            CHECK.due("length behind it", file.length(record), -1);
            CHECK.dueTotals(file, 0, 96, 0, 0, 0, 2, 0, 0);
            Scenes.tightHome(file);
            file.update(3, length, 1);
            CHECK.due("delete of record 3 with " + length, file.delete(3), length);
            CHECK.due("length(3)", file.length(3), -1);
            CHECK.dueSlots(file, 0, 1, 1, 1);
            CHECK.dueTotals(file, 3, 95, 1, 0, 0, 8, 0, 0);
        }
    }

    private static void firstOfNoChain() {
        CHECK.about("how many chain pages it has (2), the first of them (3; NONE for none)");
        SlotFile file = new SlotFile();
        file.insert(100, 1);
        CHECK.dueWhere(file, 0, 0, 0, 0, -1);
        file.update(0, 101, 1);
        CHECK.dueWhere(file, 0, 0, 0, 1, 1);
        file.update(0, 240, 1);
        CHECK.dueWhere(file, 0, 0, 0, 1, 2);
        file.update(0, 241, 1);
        CHECK.dueWhere(file, 0, 0, 0, 2, 1);
        file.update(0, 100, 1);
        CHECK.dueWhere(file, 0, 0, 0, 0, -1);
        SlotFile first = new SlotFile();
        int record = first.insert(101, 1);
        CHECK.dueWhere(first, record, 1, 0, 1, 0);
        SlotFile away = new SlotFile();
        Scenes.tightHome(away);
        away.update(3, 100, 1);
        CHECK.dueWhere(away, 3, 1, 0, 0, -1);
        away.update(3, 101, 1);
        CHECK.dueWhere(away, 3, 1, 0, 1, 2);
    }

    private static void lastPageOfAChain() {
        CHECK.about("the next page of its chain (7; NONE for the last one), how many bytes of the value it has (8)");
        SlotFile file = new SlotFile();
        file.insert(240, 1);
        CHECK.dueChain(file, 0, -1, 240);
        file.insert(241, 1);
        CHECK.dueChain(file, 2, 3, 240);
        CHECK.dueChain(file, 3, -1, 1);
        file.delete(32);
        CHECK.dueFree(file, 0);
        file.insert(481, 1);
        CHECK.dueChain(file, 0, 4, 240);
        CHECK.dueChain(file, 4, 5, 240);
        CHECK.dueChain(file, 5, -1, 1);
        file.update(32, 101, 1);
        CHECK.dueChain(file, 6, -1, 101);
        CHECK.dueFree(file, 5);
        SlotFile full = new SlotFile();
        Scenes.longOnes(full, 0);
        CHECK.dueChain(full, 94, 95, 240);
        CHECK.dueChain(full, 95, -1, 240);
    }

    private static void factsOfOtherPages() {
        CHECK.about("if it is of cells, if it is of a chain; NONE for these otherwise");
        SlotFile file = busy();
        CHECK.duePage(file, 0, 1, 4, 4, 0, 232, 0, 1, -1, -1);
        CHECK.duePage(file, 1, 1, 4, 3, 147, 96, 4, 0, -1, -1);
        CHECK.duePage(file, 2, 2, -1, -1, -1, -1, -1, -1, 3, 240);
        CHECK.duePage(file, 3, 2, -1, -1, -1, -1, -1, -1, -1, 60);
        CHECK.duePage(file, 4, 0, -1, -1, -1, -1, -1, -1, -1, -1);
        CHECK.duePage(file, 95, 0, -1, -1, -1, -1, -1, -1, -1, -1);
        SlotFile empty = new SlotFile();
        CHECK.dueFree(empty, 0);
        CHECK.dueFree(empty, 95);
    }

    private static void behindTheLastSlot() {
        CHECK.about("NONE behind the last one, and if the page has no cells");
        SlotFile file = busy();
        CHECK.dueSlots(file, 0, 1, 1, 1, 2);
        CHECK.dueSlots(file, 1, 3, 1, 0, 1);
        for (int slot : new int[] {4, 5, 31, 32, 33, 64, 1 << 27, GREATEST - 1, GREATEST}) {
            CHECK.due("slot(0, " + slot + ")", file.slot(0, slot), -1);
            CHECK.due("slot(1, " + slot + ")", file.slot(1, slot), -1);
        }
        for (int page : new int[] {2, 3, 4, 95}) {
            for (int slot : new int[] {0, 1, 31, 32, GREATEST}) {
                CHECK.due("slot(" + page + ", " + slot + ")", file.slot(page, slot), -1);
            }
        }
        file.delete(35);
        CHECK.dueSlots(file, 1, 3, 1);
        file.delete(33);
        CHECK.dueSlots(file, 1, 3);
        file.delete(3);
        CHECK.dueSlots(file, 1);
        CHECK.dueSlots(file, 0, 1, 1, 1);
    }

    private static void nextOfEveryInt() {
        CHECK.about("The least record's number above one; NONE if there is none");
        SlotFile file = busy();
        int[] records = {0, 1, 2, 3, 33, 35};
        for (int i = -40; i < 200; i++) {
            int want = -1;
            for (int at = records.length - 1; at >= 0 && records[at] > i; at--) {
                want = records[at];
            }
            CHECK.due("next(" + i + ")", file.next(i), want);
        }
        int[][] more = {{LEAST, 0}, {LEAST + 1, 0}, {-32, 0}, {-1000000, 0}, {3039, -1}, {3040, -1}, {3070, -1},
            {3071, -1}, {3072, -1}, {1000000, -1}, {GREATEST - 1, -1}, {GREATEST, -1}};
        for (int[] row : more) {
            CHECK.due("next(" + row[0] + ")", file.next(row[0]), row[1]);
        }
        SlotFile empty = new SlotFile();
        for (int[] row : more) {
            CHECK.due("next(" + row[0] + ") of none", empty.next(row[0]), -1);
        }
        empty.insert(5, 5);
        empty.delete(0);
        CHECK.due("next(-1) of none left", empty.next(-1), -1);
    }

    private static void nextInTheLastPage() {
        CHECK.about("The least record's number above one; NONE if there is none (the last page)");
        SlotFile file = new SlotFile();
        Scenes.addFullPages(file, 96);
        int[][] rows = {{94 * 32 + 2, 3040}, {3039, 3040}, {3040, 3041}, {3041, 3042}, {3042, -1}, {3043, -1},
            {3071, -1}, {3072, -1}, {GREATEST, -1}, {LEAST, 0}};
        for (int[] row : rows) {
            CHECK.due("next(" + row[0] + ")", file.next(row[0]), row[1]);
        }
        file.delete(3042);
        file.delete(3041);
        CHECK.due("next(3040) now", file.next(3040), -1);
        file.delete(3040);
        CHECK.due("next(3039) now", file.next(3039), -1);
        CHECK.due("next of the page before", file.next(94 * 32 + 1), 94 * 32 + 2);
    }
}
