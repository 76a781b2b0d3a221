import java.util.ArrayList;
import java.util.List;
import java.util.Random;
import java.util.function.Consumer;

/**
 * One run of changes, syncs and crashes that leads to the document's edges: values that just fit or just do not,
 * at home, where they are away, in some page's class or room, between its end and its slots, in the free pages.
 */
final class MixedRun {
    /** What a run is mostly made of: a start, how many records there may be, and how likely each call is. */
    enum Mix {
        HOME_AND_AWAY(24, 5, 20, 1, 1),
        MOVES(60, 8, 20, 2, 1),
        PAGES_AGAIN(14, 8, 8, 7, 1),
        COMPACTING(16, 3, 20, 2, 1),
        NEARLY_FULL_OF_CHAINS(40, 6, 16, 4, 1),
        NEARLY_FULL_OF_CELLS(400, 6, 16, 4, 1),
        CRASHES(24, 5, 14, 2, 5);

        final int records;
        final int inserts;
        final int updates;
        final int deletes;
        final int crashes;

        Mix(int records, int inserts, int updates, int deletes, int crashes) {
            this.records = records;
            this.inserts = inserts;
            this.updates = updates;
            this.deletes = deletes;
            this.crashes = crashes;
        }

        boolean isNearlyFull() {
            return this == NEARLY_FULL_OF_CHAINS || this == NEARLY_FULL_OF_CELLS;
        }
    }

    private static final int TIGHT_HOMES = 3;
    private static final int CALLS = 300;
    private static final int CALLS_BETWEEN_PICTURES = 100;
    private static final int[] EDGES = {0, 3, 4, 5, 8, 9, 99, 100, 101, 239, 240, 241, 480, 481, 720, 721, 960, 961,
        1199, 1200};

    private final Check check;
    private final Seen seen;
    private final Mix mix;
    private final Random random;
    private final SlotFile file = new SlotFile();
    private final PlainModel model = new PlainModel();
    private final List<Consumer<SlotFile>> calls = new ArrayList<>();

    MixedRun(Check check, Seen seen, Mix mix, int run) {
        this.check = check;
        this.seen = seen;
        this.mix = mix;
        this.random = new Random(1000 * mix.ordinal() + run);
    }

    void play() {
        seen.begin(model);
        start();
        while (calls.size() < CALLS) {
            int pictures = calls.size() / CALLS_BETWEEN_PICTURES;
            call();
            if (calls.size() / CALLS_BETWEEN_PICTURES > pictures) {
                comparePictures();
            }
        }
    }

    private void comparePictures() {
        List<Consumer<SlotFile>> made = List.copyOf(calls);
        List<String> got = Picture.of((SlotFile x) -> made.forEach(call -> call.accept(x)));
        check.compare("the file behind call " + made.size(), got, Picture.of(model), 0);
    }

    private void start() {
        if (mix != Mix.PAGES_AGAIN) {
            startWithTightHomes();
        }
        if (mix == Mix.NEARLY_FULL_OF_CHAINS) {
            for (int i = 0; i < 18; i++) {
                insert(1200, i);
            }
        } else if (mix == Mix.NEARLY_FULL_OF_CELLS) {
            startFullOfCells();
            fillWhole();
        }
    }

    /** Pages 0 .. 2 have room 0 .. 2 and a record of the least cell: it is away even when it is long. */
    private void startWithTightHomes() {
        for (int page = 0; page < TIGHT_HOMES; page++) {
            insert(100, 1);
            insert(100, 2);
            insert(24 - random.nextInt(3), 3);
            insert(4, 4);
        }
        if (mix == Mix.MOVES || mix == Mix.NEARLY_FULL_OF_CELLS) {
            startWithLeastOnesAway();
        }
    }

    /** The three are away in page 3, with as few bytes as can be, and fill it with others. */
    private void startWithLeastOnesAway() {
        for (int page = 0; page < TIGHT_HOMES; page++) {
            int room = model.page(page, 3);
            update(32 * page + 3, 5 + room + random.nextInt(3 - room), 5);
        }
        insert(100, 6);
        fill(3);
    }

    /** With room for no other cell behind it, if it comes to this page. */
    private void fill(int page) {
        insert(Math.max(0, Math.min(100, model.page(page, 3) - 5)), 7);
    }

    private int someTightRecord() {
        return 32 * random.nextInt(TIGHT_HOMES) + 3;
    }

    /** 17 chains of three pages with their cells, which leave room 27, then full pages: one to five stay free. */
    private void startFullOfCells() {
        for (int i = 0; i < 17; i++) {
            insert(720, i);
        }
        int pages = 39 - random.nextInt(5);
        for (int i = 0; i < pages; i++) {
            insert(100, 1);
            insert(100, 2);
            insert(33, 3);
        }
    }

    // Calls, made on both.

    private void call() {
        int choice = random.nextInt(mix.inserts + mix.updates + mix.deletes + mix.crashes);
        int records = model.total(0);
        if (mix.isNearlyFull() && random.nextInt(25) == 0) {
            fillWhole();
        } else if (mix.isNearlyFull() && random.nextInt(3) == 0) {
            fillUp();
        } else if (records == 0 || choice < mix.inserts && records < mix.records) {
            insert(someLength(-1), random.nextInt(256));
        } else if (choice < mix.inserts + mix.updates) {
            int record = someRecord();
            update(record, someLength(record), random.nextInt(256));
        } else if (choice < mix.inserts + mix.updates + mix.deletes) {
            delete(someRecord());
        } else {
            syncOrCrash();
        }
    }

    /** Takes the free pages but one or two, or what room some page has. */
    private void fillUp() {
        int free = model.total(1);
        if (free > 2) {
            insert(within(240 * (free - 1 - random.nextInt(2))), 8);
            return;
        }
        for (int page = 0; page < 96; page++) {
            if (model.page(page, 3) >= 9) {
                fill(page);
                return;
            }
        }
    }

    /** Until nothing has a place but the free pages; then a chain would take just these. */
    private void fillWhole() {
        for (int i = 0; i < 6 && calls.size() < CALLS - 2; i++) {
            fillUp();
        }
        insert(lengthOfAllFreePages(), 9);
        int record = someTightRecord();
        if (model.length(record) >= 0) {
            update(record, lengthOfAllFreePages(), 9);
        }
    }

    private int lengthOfAllFreePages() {
        return Math.max(101, within(240 * model.total(1)));
    }

    private void due(String call, long got, long want, Consumer<SlotFile> again) {
        calls.add(again);
        check.about(mix + ", call " + calls.size());
        check.due(call, got, want);
    }

    private void insert(int length, int seed) {
        seen.before(-1);
        int record = model.insert(length, seed);
        due("insert(" + length + ", " + seed + ")", file.insert(length, seed), record, x -> x.insert(length, seed));
        seen.inserted(record, length);
    }

    private void update(int record, int length, int seed) {
        seen.before(record);
        boolean isDone = model.update(record, length, seed);
        due("update(" + record + ", " + length + ", " + seed + ")", Check.update(file, record, length, seed),
            isDone ? 1 : 0, x -> x.update(record, length, seed));
        seen.updated(record, isDone, length);
    }

    private void delete(int record) {
        seen.before(record);
        int length = model.delete(record);
        due("delete(" + record + ")", file.delete(record), length, x -> x.delete(record));
        seen.deleted(record);
    }

    private void syncOrCrash() {
        if (random.nextInt(4) == 0) {
            due("sync()", file.sync(), model.sync(), SlotFile::sync);
            return;
        }
        int changes = model.total(5);
        int k = changes - random.nextInt(1 + Math.min(changes, random.nextInt(3) == 0 ? changes : 5));
        seen.before(-1);
        int lost = model.crash(k);
        due("crash(" + k + ")", file.crash(k), lost, x -> x.crash(k));
        seen.crashed(k, lost);
    }

    // What they are made with.

    private int someRecord() {
        int start = random.nextInt(96 * 32);
        // Mostly the same ones again and again, so that something comes of them.
        if (random.nextInt(4) > 0) {
            start = someTightRecord();
        }
        int record = model.next(start - 1);
        return record < 0 ? model.next(-1) : record;
    }

    private int someLength(int record) {
        int tight = someTightRecord();
        if (record < 0 && model.length(tight) >= 0 && random.nextBoolean()) {
            // So that there is no room where that value is.
            return Math.min(100, within(model.page(model.where(tight, 0), 3) - 5 - random.nextInt(3)));
        }
        int nearby = random.nextInt(3) - 1;
        if (mix.isNearlyFull() && random.nextInt(4) == 0) {
            return within(240 * model.total(1) + nearby);
        }
        int page = random.nextInt(Math.min(96, 1 + model.total(2) + model.total(3)));
        switch (random.nextInt(12)) {
            case 0:
                return EDGES[random.nextInt(EDGES.length)];
            case 1:
                return within(240 * (1 + random.nextInt(5)) + nearby);
            case 2:
                return 101 + random.nextInt(1100);
            case 3:
                return random.nextInt(12);
            case 4:
                return random.nextInt(101);
            case 5:
                return within(model.page(page, 3) - 5 - (record < 0 ? 0 : 4) + nearby);
            case 6:
                return within(31 * model.page(page, 5) - 5 - (record < 0 ? 0 : 4) + nearby);
            case 7:
                return within(between(record < 0 ? page : model.where(record, 0)) - 1 + nearby);
            default:
                return record < 0 ? random.nextInt(101) : lengthThere(record, nearby);
        }
    }

    private static int within(int length) {
        return Math.max(0, Math.min(1200, length));
    }

    private int between(int page) {
        return 248 - 4 * model.page(page, 1) - model.page(page, 4);
    }

    /** Near to what fits at home or where it is, or to how long it is. */
    private int lengthThere(int record, int nearby) {
        int page = model.where(record, 0);
        boolean isAway = page != record / 32;
        int homeBytes = isAway ? 5 : bytes(record, 0);
        switch (random.nextInt(5)) {
            case 0:
                return within(model.page(record / 32, 3) + homeBytes - 1 + nearby);
            case 1:
                return within(model.page(page, 3) + bytes(record, isAway ? 4 : 0) - (isAway ? 5 : 1) + nearby);
            case 2:
                return within(model.length(record) + 4 * nearby + random.nextInt(4));
            case 3:
                return isAway ? 101 + random.nextInt(300) : 5 + random.nextInt(3);
            default:
                return within(model.page(page, 3) + bytes(record, isAway ? 4 : 0) + random.nextInt(8));
        }
    }

    private int bytes(int record, int more) {
        int length = model.length(record);
        return Math.max(5, (length > 100 ? 9 : length + 1) + more);
    }
}
