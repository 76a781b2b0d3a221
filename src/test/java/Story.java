import java.util.ArrayList;
import java.util.List;
import java.util.function.Consumer;

/**
 * A long run of calls, each with the answer that is due and with what the file is like behind it. That is asked
 * of an object of its own for each step, since an object answers for at most 512 calls.
 */
final class Story {
    private static final int CALLS = 512;
    private static final int SYNCS = 4;

    /** One call, and what is asked behind it. */
    private static final class Step {
        final String call;
        final Check.CallOn made;
        final long due;
        final boolean isRefused;
        final boolean isChange;
        final List<Consumer<SlotFile>> questions = new ArrayList<>();
        int asked = 0;

        Step(String call, Check.CallOn made, long due, boolean isRefused, boolean isChange) {
            this.call = call;
            this.made = made;
            this.due = due;
            this.isRefused = isRefused;
            this.isChange = isChange;
        }
    }

    private final Check check;
    private final List<Step> steps = new ArrayList<>();

    Story(Check check) {
        this.check = check;
    }

    // Calls.

    Story insert(int length, int seed, int record) {
        return step("insert(" + length + ", " + seed + ")", x -> x.insert(length, seed), record, false, true);
    }

    Story insertRefused(int length, int seed) {
        return step("insert(" + length + ", " + seed + ")", x -> x.insert(length, seed), -1, true, false);
    }

    Story update(int record, int length, int seed) {
        return update(record, length, seed, true);
    }

    Story updateRefused(int record, int length, int seed) {
        return update(record, length, seed, false);
    }

    private Story update(int record, int length, int seed, boolean isDone) {
        String call = "update(" + record + ", " + length + ", " + seed + ")";
        return step(call, x -> Check.update(x, record, length, seed), isDone ? 1 : 0, !isDone, isDone);
    }

    Story delete(int record, int length) {
        return step("delete(" + record + ")", x -> x.delete(record), length, false, true);
    }

    Story sync(int changes) {
        return step("sync()", SlotFile::sync, changes, false, false);
    }

    Story crash(int k, int lost) {
        return step("crash(" + k + ")", x -> x.crash(k), lost, false, false);
    }

    private Story step(String call, Check.CallOn made, long due, boolean isRefused, boolean isChange) {
        steps.add(new Step("step " + steps.size() + ", " + call, made, due, isRefused, isChange));
        return this;
    }

    // What the file is like behind the latest call.

    /** Slots, cells, room, end, class and stubs of a page of cells. */
    Story cells(int page, int... six) {
        return ask(9, x -> check.dueCells(x, page, six));
    }

    /** What the slots of a page have, and that there is none behind. */
    Story slots(int page, int... kinds) {
        return ask(kinds.length + 1, x -> check.dueSlots(x, page, kinds));
    }

    Story free(int... pages) {
        for (int page : pages) {
            ask(9, x -> check.dueFree(x, page));
        }
        return this;
    }

    /** Where a long value's cell is, and its chain: these pages, in this order. */
    Story chain(int record, int page, int slot, int... pages) {
        where(record, page, slot, pages.length, pages[0]);
        for (int i = 0; i < pages.length; i++) {
            int at = i;
            ask(9 + 1, x -> {
                boolean isLast = at == pages.length - 1;
                int bytes = isLast ? x.length(record) - 240 * at : 240;
                check.dueChain(x, pages[at], isLast ? -1 : pages[at + 1], bytes);
            });
        }
        return this;
    }

    /** Where a short value's cell is. */
    Story at(int record, int page, int slot) {
        return where(record, page, slot, 0, -1);
    }

    private Story where(int record, int page, int slot, int pages, int first) {
        return ask(4, x -> check.dueWhere(x, record, page, slot, pages, first));
    }

    Story value(int record, int length, int seed) {
        return ask(5, x -> {
            check.due("length(" + record + ")", x.length(record), length);
            for (int i : new int[] {0, length / 2, length - 1, length}) {
                int due = i < 0 || i >= length ? -1 : (seed + 7 * i + i / 16) % 256;
                check.due("byteAt(" + record + ", " + i + ")", x.byteAt(record, i), due);
            }
        });
    }

    Story noRecords(int... records) {
        for (int record : records) {
            ask(1, x -> check.due("length(" + record + ")", x.length(record), -1));
        }
        return this;
    }

    /** All records, by next. */
    Story records(int... all) {
        return ask(all.length + 1, x -> {
            int at = -1;
            for (int record : all) {
                check.due("next(" + at + ")", x.next(at), record);
                at = record;
            }
            check.due("next(" + at + ")", x.next(at), -1);
        });
    }

    Story totals(int... eight) {
        return ask(8, x -> check.dueTotals(x, eight));
    }

    private Story ask(int calls, Consumer<SlotFile> question) {
        Step latest = steps.get(steps.size() - 1);
        latest.questions.add(question);
        latest.asked += calls;
        return this;
    }

    // What must hold.

    /** Every answer, what is asked behind each call, and that refused ones change nothing. */
    void check() {
        for (int i = 0; i < steps.size(); i++) {
            Step step = steps.get(i);
            check.about("behind " + step.call);
            check.due("calls of one object, 512 at most", i + 1 + step.asked <= CALLS, true);
            SlotFile file = new SlotFile();
            play(0, i).accept(file);
            check.due("the call itself", step.made.answer(file), step.due);
            step.questions.forEach(question -> question.accept(file));
            if (step.isRefused) {
                check.dueSame("it changes something", play(0, i), play(0, i + 1));
            }
        }
    }

    /**
     * A crash to any number of changes since any of some syncs leaves the file as it was, but for the counts; and
     * what comes behind it goes as it went without. The story must be one of changes and refused ones alone.
     */
    void checkCrashes() {
        List<List<String>> pictures = new ArrayList<>();
        for (int i = 0; i <= steps.size(); i++) {
            pictures.add(Picture.of(play(0, i)));
        }
        for (int part = 0; part < SYNCS; part++) {
            int synced = part * steps.size() / SYNCS;
            for (int kept = synced; kept <= steps.size(); kept++) {
                checkCrash(synced, kept, pictures);
            }
        }
    }

    private void checkCrash(int synced, int kept, List<List<String>> pictures) {
        int k = changes(synced, kept);
        int all = steps.size();
        int lost = changes(kept, all);
        check.about("crash(" + k + ") behind step " + (all - 1) + ", synced before step " + synced);
        Consumer<SlotFile> crashed = play(0, synced).andThen(x -> check.due("sync()", x.sync(), changes(0, synced)))
            .andThen(play(synced, all)).andThen(x -> check.due("it loses", x.crash(k), lost));
        check.compare("the file", Picture.of(crashed), pictures.get(kept), Picture.COUNTS_AND_CHANGES);
        Consumer<SlotFile> goneOn = crashed.andThen(play(kept, all));
        check.compare("the file, gone on", Picture.of(goneOn), pictures.get(all), Picture.COUNTS_AND_CHANGES);
        SlotFile file = new SlotFile();
        goneOn.accept(file);
        check.due("changes behind it", file.total(5), lost);
        check.due("crashes", file.total(7), 1);
        check.due("compactions", file.total(6), compactions(0, all) + compactions(kept, all));
        check.due("crash(0) behind it", file.crash(0), lost);
        check.due("records then", file.total(0), recordsBehind(kept));
    }

    private int changes(int from, int to) {
        int changes = 0;
        for (int i = from; i < to; i++) {
            changes += steps.get(i).isChange ? 1 : 0;
        }
        return changes;
    }

    private int compactions(int from, int to) {
        SlotFile file = new SlotFile();
        play(0, from).accept(file);
        int before = file.total(6);
        play(from, to).accept(file);
        return file.total(6) - before;
    }

    private int recordsBehind(int count) {
        SlotFile file = new SlotFile();
        play(0, count).accept(file);
        return file.total(0);
    }

    private Consumer<SlotFile> play(int from, int to) {
        return x -> {
            for (int i = from; i < to; i++) {
                steps.get(i).made.answer(x);
            }
        };
    }
}
