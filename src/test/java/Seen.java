import java.util.HashMap;
import java.util.Map;
import java.util.TreeMap;

/**
 * Counts what runs come upon: where values go, as what, what is compacted or refused meanwhile, which pages are
 * taken again, and what a crash brings back.
 */
final class Seen {
    private static final String[] PLACES = {"stays at home", "goes away", "comes home", "is changed there",
        "goes elsewhere"};

    private final Map<String, Integer> counts = new TreeMap<>();

    // Of the run that is played.
    private PlainModel model;
    private final Map<Integer, Integer> placesAway = new HashMap<>();
    private final int[] kinds = new int[96];
    private final int[] freedKinds = new int[96];
    private int compactions;
    private int length;
    private int cell;
    private int away;
    private int chains;
    private boolean isBehindACrash;

    void begin(PlainModel played) {
        model = played;
        isBehindACrash = false;
        forget();
    }

    private void forget() {
        placesAway.clear();
        for (int page = 0; page < 96; page++) {
            kinds[page] = model.page(page, 0);
            freedKinds[page] = 0;
        }
    }

    /** Before a call; a record that there is, or none. */
    void before(int record) {
        compactions = model.total(6);
        length = model.length(record);
        cell = length < 0 ? -1 : cellOf(record);
        away = model.total(4);
        chains = model.total(3);
    }

    private int cellOf(int record) {
        return 32 * model.where(record, 0) + model.where(record, 1);
    }

    void inserted(int record, int newLength) {
        if (record < 0) {
            noteRefused("insert", newLength);
        } else {
            noteChange("is inserted", kind(newLength));
        }
    }

    void updated(int record, boolean isDone, int newLength) {
        if (!isDone) {
            noteRefused(cell == record ? "update at home" : "update away", newLength);
            return;
        }
        int now = cellOf(record);
        String place = PLACES[now == cell ? (cell == record ? 0 : 3) : cell == record ? 1 : now == record ? 2 : 4];
        noteChange(place, kind(length) + " to " + kind(newLength));
        if (now == record) {
            Integer places = placesAway.remove(record);
            if (places != null && places > 1) {
                note("comes home behind two places away or more");
            }
        } else if (now != cell) {
            placesAway.merge(record, 1, Integer::sum);
        }
    }

    void deleted(int record) {
        placesAway.remove(record);
        noteChange(cell == record ? "is deleted at home" : "is deleted while away", kind(length));
    }

    void crashed(int k, int lost) {
        note(k == 0 ? "crash to no change" : lost == 0 ? "crash to all changes" : "crash to some changes");
        if (model.total(4) != away) {
            note("crash with other values away");
        }
        if (model.total(3) != chains) {
            note("crash with other chains");
        }
        isBehindACrash = true;
        forget();
    }

    private static String kind(int length) {
        return length > 100 ? "long" : "short";
    }

    private void noteChange(String place, String kinds) {
        note(place + ", " + kinds);
        if (model.total(6) > compactions) {
            note(place + ", and a page is compacted");
        }
        if (isBehindACrash) {
            note(place + " behind a crash");
        }
        notePages();
    }

    private void noteRefused(String call, int newLength) {
        boolean hasPages = (newLength + 239) / 240 <= model.total(1);
        note(call + " is refused, no " + (newLength <= 100 ? "place" : hasPages ? "place behind its chain" : "pages"));
    }

    private void notePages() {
        String[] names = {"", "cells", "a chain"};
        for (int page = 0; page < 96; page++) {
            int kind = model.page(page, 0);
            if (kind == 0 && kinds[page] != 0) {
                freedKinds[page] = kinds[page];
            } else if (kind != 0 && freedKinds[page] != 0) {
                note("page of " + names[freedKinds[page]] + " is taken by " + names[kind]);
                freedKinds[page] = 0;
            }
            kinds[page] = kind;
        }
    }

    private void note(String what) {
        counts.merge(what, 1, Integer::sum);
    }

    /** None of these may be rarer. */
    void dueOften(Check check, int least, String... all) {
        for (String what : all) {
            int count = counts.getOrDefault(what, 0);
            check.due("\"" + what + "\" is seen " + count + " times, often enough", count >= least, true);
        }
    }
}
