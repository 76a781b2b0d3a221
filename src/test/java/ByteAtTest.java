import java.util.NoSuchElementException;

/** Promise 6. */
public final class ByteAtTest {
    private static final Check CHECK = new Check();

    public static void main(String[] args) {
        everyByte(100, 250);
        everyByte(360, 0);
        SlotFile longOne = new SlotFile();
        int record = longOne.insert(1200, 255);
        CHECK.due("byte 1199", longOne.byteAt(record, 1199), (255 + 7 * 1199 + 1199 / 16) % 256);
        CHECK.due("byte 1200", longOne.byteAt(record, 1200), SlotFile.NONE);
        edges();
        CHECK.end();
    }

    private static void everyByte(int length, int seed) {
        SlotFile file = new SlotFile();
        int record = file.insert(length, seed);
        for (int i = 0; i < length; i++) {
            CHECK.due("byte " + i + " of " + length, file.byteAt(record, i), (seed + 7 * i + i / 16) % 256);
        }
        CHECK.due("byte " + length, file.byteAt(record, length), SlotFile.NONE);
    }

    private static void edges() {
        SlotFile file = new SlotFile();
        file.insert(0, 9);
        file.insert(100, 9);
        file.insert(100, 9);
        CHECK.due("byte 0 of none", file.byteAt(0, 0), SlotFile.NONE);
        CHECK.due("byte -1", file.byteAt(1, -1), SlotFile.NONE);
        CHECK.due("byte of the least", file.byteAt(1, Integer.MIN_VALUE), SlotFile.NONE);
        CHECK.due("byte of the greatest", file.byteAt(1, Integer.MAX_VALUE), SlotFile.NONE);
        file.update(0, 100, 17);
        CHECK.due("away", file.slot(0, 0), 2);
        CHECK.due("a byte away", file.byteAt(0, 33), (17 + 7 * 33 + 2) % 256);
        int[] noRecords = {3, 32, 3072, -1, Integer.MIN_VALUE, Integer.MAX_VALUE};
        for (int none : noRecords) {
            CHECK.dueThrow("byteAt(" + none + ", 0)", NoSuchElementException.class, () -> file.byteAt(none, 0));
            CHECK.dueThrow("byteAt(" + none + ", -1)", NoSuchElementException.class, () -> file.byteAt(none, -1));
        }
    }
}
