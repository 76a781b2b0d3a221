import java.util.Random;

/** Runs of 512 calls, the same ones each time, answered as PlainModel answers them. */
public final class RandomRunsTest {
    private static final int RUNS = 1200;
    private static final int CALLS = 512;
    private static final int[] EDGES = {-1, 0, 3, 4, 5, 26, 57, 58, 88, 99, 100, 101, 239, 240, 241, 480, 481, 1199,
        1200, 1201, Integer.MIN_VALUE, Integer.MAX_VALUE};
    private static final int THROWN_ARGUMENT = -1000;
    private static final int THROWN_ELEMENT = -2000;

    private final Check check;
    private final Random random;
    private final int kind;
    private final SlotFile file = new SlotFile();
    private final PlainModel model = new PlainModel();
    private int calls = 0;

    private RandomRunsTest(Check check, int run) {
        this.check = check;
        this.random = new Random(run);
        this.kind = run % 6;
    }

    public static void main(String[] args) {
        Check check = new Check();
        for (int run = 0; run < RUNS; run++) {
            new RandomRunsTest(check, run).play(run);
        }
        check.end();
    }

    private void play(int run) {
        int questions = 1 + random.nextInt(5);
        while (calls < CALLS) {
            if (random.nextInt(6) < questions) {
                ask(run);
            } else {
                change(run);
            }
        }
    }

    private void due(int run, String call, Check.Call got, Check.Call want) {
        calls++;
        check.due("run " + run + ", call " + calls + ": " + call, answer(got), answer(want));
    }

    private static long answer(Check.Call call) {
        try {
            return call.answer();
        } catch (java.util.NoSuchElementException thrown) {
            return THROWN_ELEMENT;
        } catch (IllegalArgumentException thrown) {
            return THROWN_ARGUMENT;
        }
    }

    private int someLength() {
        if (random.nextInt(40) == 0) {
            return EDGES[random.nextInt(EDGES.length)];
        }
        switch (kind) {
            case 0:
                return random.nextInt(101);
            case 1:
                return random.nextInt(12);
            case 2:
                return random.nextInt(1201);
            case 3:
                return random.nextInt(4) == 0 ? random.nextInt(1201) : random.nextInt(101);
            case 4:
                return random.nextInt(10) == 0 ? random.nextInt(30) : 70 + random.nextInt(35);
            default:
                return random.nextInt(3) == 0 ? 95 + random.nextInt(6) : random.nextInt(40);
        }
    }

    private int someSeed() {
        return random.nextInt(60) == 0 ? random.nextInt(600) - 200 : random.nextInt(256);
    }

    private int someRecord() {
        if (random.nextInt(30) == 0) {
            return random.nextInt(20) == 0 ? EDGES[random.nextInt(EDGES.length)] : random.nextInt(3200) - 64;
        }
        // Near the beginning most of the time, so that the same pages are used again and again.
        int bound = random.nextInt(3) == 0 ? 96 * 32 : 4 * 32;
        int record = model.next(random.nextInt(bound) - 1);
        return record < 0 ? model.next(-1) : record;
    }

    private void change(int run) {
        int inserts = kind == 2 || kind == 4 ? 5 : 3;
        int choice = random.nextInt(14);
        if (choice < inserts) {
            int length = someLength();
            int seed = someSeed();
            due(run, "insert(" + length + ", " + seed + ")", () -> file.insert(length, seed),
                () -> model.insert(length, seed));
        } else if (choice < 11) {
            int record = someRecord();
            int length = someLength();
            int seed = someSeed();
            due(run, "update(" + record + ", " + length + ", " + seed + ")",
                () -> file.update(record, length, seed) ? 1 : 0, () -> model.update(record, length, seed) ? 1 : 0);
        } else if (choice < 13) {
            int record = someRecord();
            due(run, "delete(" + record + ")", () -> file.delete(record), () -> model.delete(record));
        } else {
            syncOrCrash(run);
        }
    }

    private void syncOrCrash(int run) {
        int choice = random.nextInt(12);
        if (choice == 0) {
            due(run, "sync()", file::sync, model::sync);
        } else if (choice < 3) {
            int changes = model.total(5);
            int k = choice == 1 ? changes - random.nextInt(4) : random.nextInt(changes + 3) - 1;
            due(run, "crash(" + k + ")", () -> file.crash(k), () -> model.crash(k));
        }
    }

    private void ask(int run) {
        int record = someRecord();
        int page = random.nextInt(40) == 0 ? random.nextInt(110) - 7 : random.nextInt(random.nextBoolean() ? 8 : 96);
        int slot = random.nextInt(36) - (random.nextInt(20) == 0 ? 9 : 0);
        int what = random.nextInt(11) - 1;
        switch (random.nextInt(9)) {
            case 0:
                due(run, "length(" + record + ")", () -> file.length(record), () -> model.length(record));
                break;
            case 1:
                int i = someLength();
                due(run, "byteAt(" + record + ", " + i + ")", () -> file.byteAt(record, i),
                    () -> model.byteAt(record, i));
                break;
            case 2:
                int fact = random.nextInt(30) == 0 ? what : random.nextInt(4);
                due(run, "where(" + record + ", " + fact + ")", () -> file.where(record, fact),
                    () -> model.where(record, fact));
                break;
            case 3:
                due(run, "next(" + record + ")", () -> file.next(record), () -> model.next(record));
                break;
            case 4:
                due(run, "slot(" + page + ", " + slot + ")", () -> file.slot(page, slot),
                    () -> model.slot(page, slot));
                break;
            case 5:
                due(run, "total(" + what + ")", () -> file.total(what), () -> model.total(what));
                break;
            default:
                due(run, "page(" + page + ", " + what + ")", () -> file.page(page, what),
                    () -> model.page(page, what));
                break;
        }
    }
}
