/** Long runs that mix the document's sentences, answered as PlainModel answers them, with pictures in between. */
public final class MixedRunsTest {
    private static final int RUNS_OF_EACH_MIX = 20;
    private static final int OFTEN = 10;

    // Where a value goes and as what. A long one that stays long takes as much as before, so it never has to leave.
    private static final String[] WAYS = {
        "stays at home, short to short", "stays at home, short to long",
        "stays at home, long to short", "stays at home, long to long",
        "goes away, short to short", "goes away, short to long", "goes away, long to short",
        "comes home, short to short", "comes home, short to long",
        "comes home, long to short", "comes home, long to long",
        "is changed there, short to short", "is changed there, short to long",
        "is changed there, long to short", "is changed there, long to long",
        "goes elsewhere, short to short", "goes elsewhere, short to long", "goes elsewhere, long to short",
        "comes home behind two places away or more",
        "is inserted, short", "is inserted, long", "is deleted at home, short", "is deleted at home, long",
        "is deleted while away, short", "is deleted while away, long"};

    private static final String[] COMPACTED = {
        "is inserted, and a page is compacted", "stays at home, and a page is compacted",
        "goes away, and a page is compacted", "comes home, and a page is compacted",
        "is changed there, and a page is compacted", "goes elsewhere, and a page is compacted"};

    private static final String[] PAGES = {
        "page of cells is taken by cells", "page of cells is taken by a chain",
        "page of a chain is taken by cells", "page of a chain is taken by a chain"};

    private static final String[] REFUSED = {
        "insert is refused, no pages", "insert is refused, no place",
        "insert is refused, no place behind its chain",
        "update at home is refused, no pages", "update at home is refused, no place",
        "update at home is refused, no place behind its chain",
        "update away is refused, no pages", "update away is refused, no place",
        "update away is refused, no place behind its chain"};

    private static final String[] CRASHES = {
        "crash to no change", "crash to some changes", "crash to all changes",
        "crash with other values away", "crash with other chains",
        "is inserted behind a crash", "stays at home behind a crash", "goes away behind a crash",
        "comes home behind a crash", "is changed there behind a crash", "goes elsewhere behind a crash",
        "is deleted at home behind a crash", "is deleted while away behind a crash"};

    public static void main(String[] args) {
        Check check = new Check();
        Seen seen = new Seen();
        for (MixedRun.Mix mix : MixedRun.Mix.values()) {
            for (int run = 0; run < RUNS_OF_EACH_MIX; run++) {
                new MixedRun(check, seen, mix, run).play();
            }
        }
        check.about("what the runs come upon");
        for (String[] group : new String[][] {WAYS, COMPACTED, PAGES, REFUSED, CRASHES}) {
            seen.dueOften(check, OFTEN, group);
        }
        check.end();
    }
}
