import java.util.ArrayList;
import java.util.List;
import java.util.function.Consumer;

/** Counts and prints the answers that are not the ones that are due. */
final class Check {
    interface Call {
        long answer();
    }

    // An object answers for at most 512 calls: a scene and the questions behind it stay below that.
    private static final int QUESTIONS_PER_OBJECT = 100;

    // The first questions ask for these.
    private static final int COUNTS = 2;

    private int asked = 0;
    private int wrong = 0;

    void due(String call, long got, long want) {
        asked++;
        if (got != want) {
            report(call + " answered " + got + ", due is " + want);
        }
    }

    void due(String call, boolean got, boolean want) {
        due(call, got ? 1 : 0, want ? 1 : 0);
    }

    void dueThrow(String call, Class<? extends RuntimeException> want, Call made) {
        asked++;
        try {
            report(call + " answered " + made.answer() + ", due is " + want.getSimpleName());
        } catch (RuntimeException got) {
            if (got.getClass() != want) {
                report(call + " threw " + got + ", due is " + want.getSimpleName());
            }
        }
    }

    /** Two ways to a state must leave objects that no question tells apart. */
    void dueSame(String what, Consumer<SlotFile> one, Consumer<SlotFile> other) {
        compare(what, everything(one), everything(other), 0);
    }

    /** The same, but for the counts of compactions and crashes, which a crash leaves as they are. */
    void dueSameButCounts(String what, Consumer<SlotFile> one, Consumer<SlotFile> other) {
        compare(what, everything(one), everything(other), COUNTS);
    }

    private void compare(String what, List<String> first, List<String> second, int from) {
        asked++;
        for (int i = from; i < first.size(); i++) {
            if (!first.get(i).equals(second.get(i))) {
                report(what + ": " + first.get(i) + ", but " + second.get(i));
                return;
            }
        }
    }

    /** A call that throws in some scene must throw the right thing and change nothing. */
    void dueThrowAndSame(String call, Class<? extends RuntimeException> want,
            Consumer<SlotFile> scene, Consumer<SlotFile> made) {
        SlotFile file = new SlotFile();
        scene.accept(file);
        dueThrow(call, want, () -> {
            made.accept(file);
            return 0;
        });
        dueSame(call + " changes something", scene, x -> {
            scene.accept(x);
            try {
                made.accept(x);
            } catch (RuntimeException expected) {
                return;
            }
        });
    }

    void end() {
        System.out.println(wrong == 0 ? asked + " answers are as due" : wrong + " of " + asked + " are not as due");
        if (wrong != 0 || asked == 0) {
            System.exit(1);
        }
    }

    private void report(String text) {
        wrong++;
        if (wrong <= 50) {
            System.out.println(text);
        }
    }

    private interface Question {
        String ask(SlotFile file);
    }

    private static List<String> everything(Consumer<SlotFile> scene) {
        List<Question> questions = questions();
        List<String> answers = new ArrayList<>();
        SlotFile file = null;
        for (int i = 0; i < questions.size(); i++) {
            if (i % QUESTIONS_PER_OBJECT == 0) {
                file = new SlotFile();
                scene.accept(file);
            }
            answers.add(questions.get(i).ask(file));
        }
        return answers;
    }

    private static List<Question> questions() {
        List<Question> all = new ArrayList<>();
        for (int w = 7; w >= 0; w--) {
            int what = w;
            all.add(x -> "total(" + what + ") = " + x.total(what));
        }
        for (int p = 0; p < 96; p++) {
            int page = p;
            for (int w = 0; w < 9; w++) {
                int what = w;
                all.add(x -> "page(" + page + ", " + what + ") = " + x.page(page, what));
            }
        }
        for (int r = 0; r < 4 * 32; r++) {
            int record = r;
            all.add(x -> "slot of " + record + " = " + x.slot(record / 32, record % 32));
            all.add(x -> "length(" + record + ") = " + x.length(record));
            all.add(x -> "next(" + record + ") = " + x.next(record));
            all.add(x -> "first byte of " + record + " = " + (x.length(record) < 0 ? "" : x.byteAt(record, 0)));
            all.add(x -> "page of " + record + " = " + (x.length(record) < 0 ? "" : x.where(record, 0)));
            all.add(x -> "chain of " + record + " = " + (x.length(record) < 0 ? "" : x.where(record, 3)));
        }
        return all;
    }
}
