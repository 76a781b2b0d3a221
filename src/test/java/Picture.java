import java.util.ArrayList;
import java.util.List;
import java.util.function.Consumer;

/** Every answer that tells something of a file. */
final class Picture {
    /** The questions of the document's face. */
    interface Answers {
        int length(int record);

        int byteAt(int record, int i);

        int where(int record, int what);

        int next(int record);

        int page(int page, int what);

        int slot(int page, int slot);

        int total(int what);
    }

    // The counts that a crash leaves as they are, total(7) and total(6), are the first answers.
    static final int COUNTS = 2;
    // And behind them how many changes there are since the sync.
    static final int COUNTS_AND_CHANGES = 3;

    private final Answers file;
    private final List<String> answers = new ArrayList<>();

    private Picture(Answers file) {
        this.file = file;
    }

    static List<String> of(Consumer<SlotFile> scene) {
        return of(new Replayed(scene));
    }

    static List<String> of(Answers file) {
        Picture picture = new Picture(file);
        for (int what = 7; what >= 0; what--) {
            picture.note("total(" + what + ")", file.total(what));
        }
        for (int page = 0; page < 96; page++) {
            picture.askPage(page);
        }
        for (int record = -1; record <= 96 * 32; record++) {
            picture.askRecord(record);
        }
        return picture.answers;
    }

    private int note(String call, int answer) {
        answers.add(call + " = " + answer);
        return answer;
    }

    private void askPage(int page) {
        for (int what = 0; what < 9; what++) {
            note("page(" + page + ", " + what + ")", file.page(page, what));
        }
        for (int slot = 0; slot <= 32; slot++) {
            note("slot(" + page + ", " + slot + ")", file.slot(page, slot));
        }
    }

    private void askRecord(int record) {
        note("next(" + record + ")", file.next(record));
        int length = note("length(" + record + ")", file.length(record));
        if (length < 0) {
            return;
        }
        note("first byte of " + record, file.byteAt(record, 0));
        note("last byte of " + record, file.byteAt(record, length - 1));
        for (int what = 0; what < 4; what++) {
            note("where(" + record + ", " + what + ")", file.where(record, what));
        }
    }

    /** Asks objects that go the same way to a scene: each answers for at most 512 calls. */
    private static final class Replayed implements Answers {
        // So a scene has up to 300 of them.
        private static final int QUESTIONS_PER_OBJECT = 200;

        private final Consumer<SlotFile> scene;
        private SlotFile file;
        private int left = 0;

        Replayed(Consumer<SlotFile> scene) {
            this.scene = scene;
        }

        private SlotFile object() {
            if (left == 0) {
                file = new SlotFile();
                scene.accept(file);
                left = QUESTIONS_PER_OBJECT;
            }
            left--;
            return file;
        }

        @Override
        public int length(int record) {
            return object().length(record);
        }

        @Override
        public int byteAt(int record, int i) {
            return object().byteAt(record, i);
        }

        @Override
        public int where(int record, int what) {
            return object().where(record, what);
        }

        @Override
        public int next(int record) {
            return object().next(record);
        }

        @Override
        public int page(int page, int what) {
            return object().page(page, what);
        }

        @Override
        public int slot(int page, int slot) {
            return object().slot(page, slot);
        }

        @Override
        public int total(int what) {
            return object().total(what);
        }
    }
}
