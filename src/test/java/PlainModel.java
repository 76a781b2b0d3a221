import java.util.ArrayList;
import java.util.List;
import java.util.NoSuchElementException;

/**
 * The document told once more, as plainly as it goes: each change is tried on a copy of the file, which is
 * thrown away if the change is refused and kept for crashes if not; cells lie at their bytes.
 */
final class PlainModel implements Picture.Answers {
    private static final class Cell {
        int kind;
        int offset;
        int size;
        byte[] bytes = new byte[0];
        int target = -1;
        int[] chain = new int[0];

        Cell copy() {
            Cell cell = new Cell();
            cell.kind = kind;
            cell.offset = offset;
            cell.size = size;
            cell.bytes = bytes;
            cell.target = target;
            cell.chain = chain;
            return cell;
        }
    }

    private static final class Page {
        int kind = 0;
        int end = 0;
        int next = -1;
        int bytes = -1;
        final Cell[] cells = new Cell[32];

        Page copy() {
            Page page = new Page();
            page.kind = kind;
            page.end = end;
            page.next = next;
            page.bytes = bytes;
            for (int i = 0; i < 32; i++) {
                page.cells[i] = cells[i] == null ? null : cells[i].copy();
            }
            return page;
        }

        int slots() {
            int slots = 32;
            while (slots > 0 && cells[slots - 1] == null) {
                slots--;
            }
            return slots;
        }

        int count(int kind) {
            int count = 0;
            for (Cell cell : cells) {
                if (cell != null && (kind == 0 || cell.kind == kind)) {
                    count++;
                }
            }
            return count;
        }

        int taken(Cell without) {
            int taken = 0;
            for (Cell cell : cells) {
                taken += cell == null || cell == without ? 0 : cell.size;
            }
            return taken;
        }

        int room() {
            return 248 - 4 * slots() - taken(null);
        }

        void lookForOverlaps() {
            boolean[] used = new boolean[248 - 4 * slots()];
            for (Cell cell : cells) {
                for (int i = 0; cell != null && i < cell.size; i++) {
                    if (used[cell.offset + i] || cell.offset + i >= end) {
                        throw new IllegalStateException("cells overlap, or one lies behind the end");
                    }
                    used[cell.offset + i] = true;
                }
            }
        }
    }

    private static final class State {
        final Page[] pages = new Page[96];
        int compactions = 0;

        State copy() {
            State state = new State();
            for (int i = 0; i < 96; i++) {
                state.pages[i] = pages[i].copy();
            }
            return state;
        }

        Cell cell(int number) {
            return number < 0 || number >= 96 * 32 ? null : pages[number / 32].cells[number % 32];
        }

        Cell home(int record) {
            Cell cell = cell(record);
            return cell == null || cell.kind == 3 ? null : cell;
        }

        int placeOf(int record) {
            return cell(record).kind == 2 ? cell(record).target : record;
        }

        int countPages(int kind) {
            int count = 0;
            for (Page page : pages) {
                count += page.kind == kind ? 1 : 0;
            }
            return count;
        }

        int countCells(int kind) {
            int count = 0;
            for (Page page : pages) {
                count += page.count(kind);
            }
            return count;
        }

        int leastFree() {
            for (int i = 0; i < 96; i++) {
                if (pages[i].kind == 0) {
                    return i;
                }
            }
            return -1;
        }

        /** Null if there are too few pages; what was taken is lost then with this copy of the file. */
        int[] chainFor(int length) {
            if (length <= 100) {
                return new int[0];
            }
            List<Integer> taken = new ArrayList<>();
            for (int left = length; left > 0; left -= 240) {
                int free = leastFree();
                if (free < 0) {
                    return null;
                }
                pages[free].kind = 2;
                pages[free].bytes = left < 240 ? left : 240;
                if (!taken.isEmpty()) {
                    pages[taken.get(taken.size() - 1)].next = free;
                }
                taken.add(free);
            }
            return taken.stream().mapToInt(Integer::intValue).toArray();
        }

        void freeChain(int[] chain) {
            for (int page : chain) {
                pages[page] = new Page();
            }
        }

        int place(int n, int notHere, int norHere) {
            for (int least = 0; least <= 8; least++) {
                for (int i = 0; i < 96; i++) {
                    if (mayTake(i, notHere, norHere) && pages[i].room() / 31 == least && least * 31 >= n + 4) {
                        return i;
                    }
                }
            }
            for (int i = 0; i < 96; i++) {
                if (mayTake(i, notHere, norHere) && pages[i].room() >= n + 4) {
                    return i;
                }
            }
            return leastFree();
        }

        boolean mayTake(int page, int notHere, int norHere) {
            return pages[page].kind == 1 && page != notHere && page != norHere && pages[page].count(0) < 32;
        }

        int putNew(int page, Cell cell) {
            Page p = pages[page];
            p.kind = 1;
            int slot = 0;
            while (p.cells[slot] != null) {
                slot++;
            }
            int slots = p.slots() > slot ? p.slots() : slot + 1;
            if (p.end + cell.size > 248 - 4 * slots) {
                compact(p, null);
            }
            cell.offset = p.end;
            p.end += cell.size;
            p.cells[slot] = cell;
            return page * 32 + slot;
        }

        void change(int number, Cell cell) {
            Page p = pages[number / 32];
            Cell old = cell(number);
            cell.offset = old.offset;
            if (cell.size > old.size) {
                if (p.end + cell.size > 248 - 4 * p.slots()) {
                    compact(p, old);
                }
                cell.offset = p.end;
                p.end += cell.size;
            }
            p.cells[number % 32] = cell;
        }

        void compact(Page p, Cell without) {
            compactions++;
            p.end = 0;
            for (Cell cell : p.cells) {
                if (cell != null && cell != without) {
                    cell.offset = p.end;
                    p.end += cell.size;
                }
            }
        }

        void takeOut(int number) {
            Page p = pages[number / 32];
            p.cells[number % 32] = null;
            if (p.count(0) == 0) {
                pages[number / 32] = new Page();
            }
        }

        int insert(int length, int seed) {
            int[] chain = chainFor(length);
            if (chain == null) {
                return -1;
            }
            Cell cell = value(1, length, seed, chain);
            int page = place(cell.size, -1, -1);
            return page < 0 ? -1 : putNew(page, cell);
        }

        boolean update(int record, int length, int seed) {
            int[] chain = chainFor(length);
            if (chain == null) {
                return false;
            }
            Cell home = cell(record);
            int[] oldChain = cell(placeOf(record)).chain;
            boolean done = home.kind == 1
                ? updateAtHome(record, value(1, length, seed, chain), value(3, length, seed, chain))
                : updateAway(record, value(1, length, seed, chain), value(3, length, seed, chain));
            freeChain(oldChain);
            return done;
        }

        boolean updateAtHome(int record, Cell atHome, Cell away) {
            int page = record / 32;
            if (248 - 4 * pages[page].slots() - pages[page].taken(cell(record)) >= atHome.size) {
                change(record, atHome);
                return true;
            }
            int place = place(away.size, page, -1);
            if (place < 0) {
                return false;
            }
            change(record, stub(putNew(place, away)));
            return true;
        }

        boolean updateAway(int record, Cell atHome, Cell away) {
            int page = record / 32;
            int was = cell(record).target;
            if (248 - 4 * pages[page].slots() - pages[page].taken(cell(record)) >= atHome.size) {
                change(record, atHome);
                takeOut(was);
                return true;
            }
            Page there = pages[was / 32];
            if (248 - 4 * there.slots() - there.taken(cell(was)) >= away.size) {
                change(was, away);
                return true;
            }
            int place = place(away.size, page, was / 32);
            if (place < 0) {
                return false;
            }
            change(record, stub(putNew(place, away)));
            takeOut(was);
            return true;
        }

        void delete(int record) {
            int place = placeOf(record);
            freeChain(cell(place).chain);
            takeOut(place);
            if (place != record) {
                takeOut(record);
            }
        }

        static Cell stub(int target) {
            Cell cell = new Cell();
            cell.kind = 2;
            cell.size = 5;
            cell.target = target;
            return cell;
        }

        static Cell value(int kind, int length, int seed, int[] chain) {
            Cell cell = new Cell();
            cell.kind = kind;
            cell.size = (length > 100 ? 9 : length + 1) + (kind == 3 ? 4 : 0);
            if (cell.size < 5) {
                cell.size = 5;
            }
            cell.bytes = new byte[length];
            for (int i = 0; i < length; i++) {
                cell.bytes[i] = (byte) (seed + 7 * i + i / 16);
            }
            cell.chain = chain;
            return cell;
        }
    }

    private State state = new State();
    private final List<State> history = new ArrayList<>();
    private int compactions = 0;
    private int crashes = 0;

    PlainModel() {
        for (int i = 0; i < 96; i++) {
            state.pages[i] = new Page();
        }
        history.add(state);
    }

    private void keep(State changed) {
        for (Page page : changed.pages) {
            page.lookForOverlaps();
        }
        compactions += changed.compactions;
        changed.compactions = 0;
        state = changed;
        history.add(changed);
    }

    private Cell valueOf(int record) {
        if (state.home(record) == null) {
            throw new NoSuchElementException();
        }
        return state.cell(state.placeOf(record));
    }

    private static void mustBe(boolean right) {
        if (!right) {
            throw new IllegalArgumentException();
        }
    }

    private static void mustBeValue(int length, int seed) {
        mustBe(length >= 0 && length <= 1200 && seed >= 0 && seed <= 255);
    }

    int insert(int length, int seed) {
        mustBeValue(length, seed);
        State changed = state.copy();
        int record = changed.insert(length, seed);
        if (record >= 0) {
            keep(changed);
        }
        return record;
    }

    boolean update(int record, int length, int seed) {
        valueOf(record);
        mustBeValue(length, seed);
        State changed = state.copy();
        boolean done = changed.update(record, length, seed);
        if (done) {
            keep(changed);
        }
        return done;
    }

    int delete(int record) {
        int length = valueOf(record).bytes.length;
        State changed = state.copy();
        changed.delete(record);
        keep(changed);
        return length;
    }

    @Override
    public int length(int record) {
        return state.home(record) == null ? -1 : valueOf(record).bytes.length;
    }

    @Override
    public int byteAt(int record, int i) {
        Cell cell = valueOf(record);
        return i < 0 || i >= cell.bytes.length ? -1 : cell.bytes[i] & 255;
    }

    @Override
    public int where(int record, int what) {
        Cell cell = valueOf(record);
        mustBe(what >= 0 && what <= 3);
        int place = state.placeOf(record);
        int first = cell.chain.length == 0 ? -1 : cell.chain[0];
        return new int[] {place / 32, place % 32, cell.chain.length, first}[what];
    }

    @Override
    public int next(int record) {
        for (long i = Math.max(0L, record + 1L); i < 96 * 32; i++) {
            if (state.home((int) i) != null) {
                return (int) i;
            }
        }
        return -1;
    }

    @Override
    public int page(int page, int what) {
        mustBe(page >= 0 && page <= 95 && what >= 0 && what <= 8);
        Page p = state.pages[page];
        if (what == 0) {
            return p.kind;
        }
        if (what >= 7) {
            return p.kind != 2 ? -1 : what == 7 ? p.next : p.bytes;
        }
        int[] facts = {0, p.slots(), p.count(0), p.room(), p.end, p.room() / 31, p.count(2)};
        return p.kind == 1 ? facts[what] : -1;
    }

    @Override
    public int slot(int page, int slot) {
        mustBe(page >= 0 && page <= 95 && slot >= 0);
        Page p = state.pages[page];
        if (slot >= p.slots()) {
            return -1;
        }
        return p.cells[slot] == null ? 0 : p.cells[slot].kind;
    }

    int sync() {
        int changes = history.size() - 1;
        history.clear();
        history.add(state);
        return changes;
    }

    int crash(int k) {
        int changes = history.size() - 1;
        mustBe(k >= 0 && k <= changes);
        state = history.get(k);
        sync();
        crashes++;
        return changes - k;
    }

    @Override
    public int total(int what) {
        mustBe(what >= 0 && what <= 7);
        switch (what) {
            case 0:
                return state.countCells(1) + state.countCells(2);
            case 4:
                return state.countCells(3);
            case 5:
                return history.size() - 1;
            case 6:
                return compactions;
            case 7:
                return crashes;
            default:
                return state.countPages(what - 1);
        }
    }
}
