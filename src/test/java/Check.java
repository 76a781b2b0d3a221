import java.util.List;
import java.util.function.Consumer;

/** Counts and prints the answers that are not the ones that are due. */
final class Check {
    interface Call {
        long answer();
    }

    interface CallOn {
        long answer(SlotFile file);
    }

    private int asked = 0;
    private int wrong = 0;
    private String sentence = "";

    /** What comes is asked for this sentence's sake: it is printed with every wrong answer. */
    void about(String words) {
        sentence = words + ": ";
    }

    void due(String call, long got, long want) {
        asked++;
        if (got != want) {
            report(call + " answered " + got + ", due is " + want);
        }
    }

    void due(String call, boolean got, boolean want) {
        due(call, got ? 1 : 0, want ? 1 : 0);
    }

    /** All nine facts of a page. */
    void duePage(SlotFile file, int page, int... wanted) {
        for (int what = 0; what < 9; what++) {
            due("page(" + page + ", " + what + ")", file.page(page, what), wanted[what]);
        }
    }

    void dueFree(SlotFile file, int page) {
        duePage(file, page, 0, -1, -1, -1, -1, -1, -1, -1, -1);
    }

    /** Slots, cells, room, end, class and stubs. */
    void dueCells(SlotFile file, int page, int... six) {
        duePage(file, page, 1, six[0], six[1], six[2], six[3], six[4], six[5], -1, -1);
    }

    void dueChain(SlotFile file, int page, int next, int bytes) {
        duePage(file, page, 2, -1, -1, -1, -1, -1, -1, next, bytes);
    }

    /** What the slots of a page have, and that there is none behind the last one. */
    void dueSlots(SlotFile file, int page, int... wanted) {
        for (int slot = 0; slot < wanted.length; slot++) {
            due("slot(" + page + ", " + slot + ")", file.slot(page, slot), wanted[slot]);
        }
        due("slot(" + page + ", " + wanted.length + ")", file.slot(page, wanted.length), -1);
    }

    /** Page and slot of the value, how many chain pages, the first of them. */
    void dueWhere(SlotFile file, int record, int... wanted) {
        for (int what = 0; what < 4; what++) {
            due("where(" + record + ", " + what + ")", file.where(record, what), wanted[what]);
        }
    }

    /** Records, free pages, pages of cells, of chains, records away, changes, compactions, crashes. */
    void dueTotals(SlotFile file, int... wanted) {
        for (int what = 0; what < 8; what++) {
            due("total(" + what + ")", file.total(what), wanted[what]);
        }
    }

    void dueThrow(String call, Class<? extends RuntimeException> want, Call made) {
        asked++;
        try {
            report(call + " answered " + made.answer() + ", due is " + want.getSimpleName());
        } catch (RuntimeException got) {
            if (got.getClass() != want) {
                report(call + " threw " + got + ", due is " + want.getSimpleName());
            }
        }
    }

    /** Two ways to a state must leave objects that no question tells apart. */
    void dueSame(String what, Consumer<SlotFile> one, Consumer<SlotFile> other) {
        compare(what, Picture.of(one), Picture.of(other), 0);
    }

    /** The same, but for the counts of compactions and crashes, which a crash leaves as they are. */
    void dueSameButCounts(String what, Consumer<SlotFile> one, Consumer<SlotFile> other) {
        compare(what, Picture.of(one), Picture.of(other), Picture.COUNTS);
    }

    /** Two pictures, but for their first answers, must be the same. */
    void compare(String what, List<String> first, List<String> second, int from) {
        asked++;
        for (int i = from; i < first.size() || i < second.size(); i++) {
            String here = i < first.size() ? first.get(i) : "nothing";
            String there = i < second.size() ? second.get(i) : "nothing";
            if (!here.equals(there)) {
                report(what + ": " + here + ", but " + there);
                return;
            }
        }
    }

    /** A call that is refused in some scene must say so and change nothing. */
    void dueAndSame(String call, long want, Consumer<SlotFile> scene, CallOn made) {
        SlotFile file = new SlotFile();
        scene.accept(file);
        due(call, made.answer(file), want);
        dueSame(call + " changes something", scene, scene.andThen(made::answer));
    }

    /** A call that throws in some scene must throw the right thing and change nothing. */
    void dueThrowAndSame(String call, Class<? extends RuntimeException> want, Consumer<SlotFile> scene, CallOn made) {
        SlotFile file = new SlotFile();
        scene.accept(file);
        dueThrow(call, want, () -> made.answer(file));
        dueSame(call + " changes something", scene, x -> {
            scene.accept(x);
            callCaught(x, made);
        });
    }

    /** An update's answer as a number, 1 or 0. */
    static int update(SlotFile file, int record, int length, int seed) {
        return file.update(record, length, seed) ? 1 : 0;
    }

    static void callCaught(SlotFile file, CallOn made) {
        try {
            made.answer(file);
        } catch (RuntimeException expected) {
            return;
        }
    }

    void end() {
        System.out.println(wrong == 0 ? asked + " answers are as due" : wrong + " of " + asked + " are not as due");
        if (wrong != 0 || asked == 0) {
            System.exit(1);
        }
    }

    private void report(String text) {
        wrong++;
        if (wrong <= 50) {
            System.out.println(sentence + text);
        }
    }
}
