/** What a start makes of disks that were changed by hand. */
public final class StartTest {
    private static final int NONE = -1, BROKEN = -4;
    private static final Checks checks = new Checks();

    public static void main(String[] args) {
        greatestSerial();
        sameSerial();
        serialsWithoutSign();
        missingPages();
        pagesGoRound();
        manyPages();
        justItsKeys();
        runEnds();
        runGoesRound();
        fullRun();
        pagesInTheRun();
        serialsGoOverTheTop();
        laterHolder();
        endsWithoutBeginning();
        staleLogs();
        tellingLogs();
        tellingPages();
        tornCheckpoint();
        checks.finish();
    }

    private static void due(String what, long got, long want) {
        checks.due(what, got, want);
    }

    private static StoreLog3 downStore(int sectors) {
        StoreLog3 x = new StoreLog3(sectors);
        x.cut(0, 0);
        return x;
    }

    private static void dueEnd(String what, StoreLog3 x, int serial, int sector, int needed) {
        due(what + ", serial", x.count(0), serial);
        due(what + ", sector", x.count(1), sector);
        due(what + ", needed", x.count(4), needed);
    }

    private static int[] put(int transaction, int key, int value) {
        return Images.entry(transaction, Images.PUT, key, value);
    }

    private static int[] commit(int transaction) {
        return Images.entry(transaction, Images.COMMIT, 0, 0);
    }

    private static int[] undo(int transaction) {
        return Images.entry(transaction, Images.UNDO, 0, 0);
    }

    private static int[] onePage(int sector, long serial, int value) {
        return Images.page(sector, serial, 0, 1, Images.pair(3, value));
    }

    private static void greatestSerial() {
        StoreLog3 x = downStore(16);
        Images.lay(x, 9, onePage(9, 500, 9));
        Images.lay(x, 4, onePage(4, 501, 4));
        Images.lay(x, 12, onePage(12, 499, 12));
        due("start", x.start(), 0);
        due("the greatest", x.get(3), 4);
        dueEnd("the greatest", x, 501, 4, 1);
    }

    private static void sameSerial() {
        StoreLog3 x = downStore(16);
        Images.lay(x, 9, onePage(9, 500, 9));
        Images.lay(x, 4, onePage(4, 500, 4));
        due("start", x.start(), 0);
        due("the lesser sector", x.get(3), 4);
    }

    private static void serialsWithoutSign() {
        StoreLog3 x = downStore(16);
        Images.lay(x, 9, onePage(9, 2147483648L, 9));
        Images.lay(x, 10, onePage(10, 2147483647L, 10));
        Images.lay(x, 4, onePage(4, 7, 4));
        due("start", x.start(), 0);
        due("above the signed ones", x.get(3), 9);
        dueEnd("above the signed ones", x, Integer.MIN_VALUE, 9, 1);
    }

    private static void missingPages() {
        dueMiddlePage("right", Images.page(6, 101, 1, 3), true);
        dueMiddlePage("other number of pages", Images.page(6, 101, 1, 2), false);
        dueMiddlePage("other page", Images.page(6, 101, 0, 3), false);
        dueMiddlePage("last page twice", Images.page(6, 101, 2, 3), false);
        dueMiddlePage("serial too great", Images.page(6, 102, 1, 3), false);
        dueMiddlePage("serial too small", Images.page(6, 100, 1, 3), false);
        dueMiddlePage("not sound", Images.page(7, 101, 1, 3), false);
        int[] log = Images.log(6, 101, put(0, 0, 0));
        log[26] = 1;
        log[27] = 3;
        dueMiddlePage("a log", Images.sealed(6, log), false);
        StoreLog3 x = downStore(16);
        Images.lay(x, 0, Images.page(0, 1, 1, 2));
        due("without a page 0", x.start(), BROKEN);
    }

    /** Lays a sector between pages 0 and 2 of a checkpoint of three pages. */
    private static void dueMiddlePage(String what, int[] middle, boolean there) {
        StoreLog3 x = downStore(16);
        Images.lay(x, 5, Images.page(5, 100, 0, 3, Images.pair(1, 1)));
        Images.lay(x, 6, middle);
        Images.lay(x, 7, Images.page(7, 102, 2, 3, Images.pair(3, 3)));
        due(what + ", start", x.start(), 0);
        due(what + ", serial", x.count(0), there ? 102 : 1);
        due(what + ", needed", x.count(4), there ? 3 : 1);
        due(what + ", key", x.get(3), there ? 3 : NONE);
    }

    private static void pagesGoRound() {
        StoreLog3 x = downStore(17);
        Images.lay(x, 16, Images.page(16, 100, 0, 3, Images.pair(1, 1)));
        Images.lay(x, 0, Images.page(0, 101, 1, 3, Images.pair(2, 2)));
        Images.lay(x, 1, Images.page(1, 102, 2, 3, Images.pair(31, 16777215)));
        due("start", x.start(), 0);
        due("first page", x.get(1), 1);
        due("second page", x.get(2), 2);
        due("third page", x.get(31), 16777215);
        dueEnd("round", x, 102, 1, 3);
    }

    private static void manyPages() {
        StoreLog3 x = downStore(16);
        for (int sector = 0; sector < 16; sector++) {
            Images.lay(x, sector, Images.page(sector, 50 + sector, sector, 16, Images.pair(sector, sector)));
        }
        due("start of a disk that is all pages", x.start(), 0);
        due("last page", x.get(15), 15);
        dueEnd("all pages", x, 65, 15, 16);
        due("no room", x.checkpoint(), -2);

        StoreLog3 y = downStore(16);
        for (int sector = 0; sector < 16; sector++) {
            Images.lay(y, sector, Images.page(sector, 50 + sector, sector, 17, Images.pair(sector, sector)));
        }
        due("more pages than sectors", y.start(), BROKEN);
        Images.lay(y, 3, Images.page(3, 1, 0, 255));
        due("as many pages as a byte can tell", y.start(), BROKEN);
    }

    private static void justItsKeys() {
        StoreLog3 x = new StoreLog3(16);
        x.begin();
        x.put(0, 1, 1);
        x.commit(0);
        x.sync();
        x.begin();
        x.put(0, 2, 2);
        x.cut(0, 0);
        Images.lay(x, 8, Images.page(8, 90, 0, 1, Images.pair(5, 5), Images.pair(5, 6)));
        due("start", x.start(), 0);
        due("its key", x.get(5), 6);
        due("no other", x.get(1), NONE);
        due("none of memory", x.get(2), NONE);
        due("nobody holds", x.holder(2), NONE);
    }

    private static void runEnds() {
        long[] serials = {2, 3, 5, 6};
        StoreLog3 x = downStore(16);
        for (int n = 0; n < 4; n++) {
            Images.lay(x, n + 1, Images.log(n + 1, serials[n], put(0, n, n), commit(0)));
        }
        due("start", x.start(), 0);
        due("in the run", x.get(1), 1);
        due("behind a gap of serials", x.get(2), NONE);
        dueEnd("gap of serials", x, 3, 2, 3);

        StoreLog3 y = downStore(16);
        Images.lay(y, 1, Images.log(1, 2, put(0, 1, 1), commit(0)));
        Images.lay(y, 3, Images.log(3, 4, put(0, 2, 2), commit(0)));
        due("start", y.start(), 0);
        due("behind a sector that tells nothing", y.get(2), NONE);
        dueEnd("gap of sectors", y, 2, 1, 2);

        StoreLog3 z = downStore(16);
        Images.lay(z, 1, Images.log(1, 1, put(0, 1, 1), commit(0)));
        due("start", z.start(), 0);
        due("a log with the page's serial", z.get(1), NONE);
        dueEnd("no run", z, 1, 0, 1);
    }

    private static void runGoesRound() {
        StoreLog3 x = downStore(16);
        Images.lay(x, 14, onePage(14, 70, 7));
        Images.lay(x, 15, Images.log(15, 71, put(0, 1, 1), commit(0)));
        Images.lay(x, 0, Images.log(0, 72, put(0, 2, 2), commit(0)));
        due("start", x.start(), 0);
        due("before the turn", x.get(1), 1);
        due("behind the turn", x.get(2), 2);
        dueEnd("round", x, 72, 0, 3);
    }

    private static void fullRun() {
        StoreLog3 x = downStore(16);
        for (int sector = 1; sector < 16; sector++) {
            Images.lay(x, sector, Images.log(sector, sector + 1, put(0, sector, sector)));
        }
        due("one is undone", x.start(), 1);
        dueEnd("all sectors", x, 16, 15, 16);
        due("its entry waits", x.count(3), 1);
        due("and cannot be written", x.sync(), -2);
        due("nor a checkpoint", x.checkpoint(), -2);
    }

    private static void pagesInTheRun() {
        StoreLog3 x = downStore(16);
        Images.lay(x, 1, Images.log(1, 2, put(0, 1, 1)));
        Images.lay(x, 2, Images.page(2, 3, 0, 2, Images.pair(9, 9)));
        Images.lay(x, 3, Images.log(3, 4, commit(0)));
        Images.lay(x, 4, Images.page(4, 5, 1, 2, Images.pair(10, 10)));
        due("start", x.start(), 0);
        due("done over a page", x.get(1), 1);
        due("no key of that page", x.get(9), NONE);
        dueEnd("up to the last page", x, 5, 4, 5);
    }

    private static void serialsGoOverTheTop() {
        StoreLog3 x = downStore(16);
        Images.lay(x, 0, Images.page(0, 4294967294L, 0, 1, Images.pair(1, 1)));
        Images.lay(x, 1, Images.log(1, 4294967295L, put(0, 2, 2)));
        Images.lay(x, 2, Images.log(2, 0, commit(0)));
        due("start", x.start(), 0);
        due("run over the top", x.get(2), 2);
        dueEnd("over the top", x, 0, 2, 3);
        x.checkpoint();
        x.sync();
        due("serial behind 0", x.at(3, 4), 1);
        x.cut(0, 0);
        due("start from the greater serial", x.start(), 0);
        dueEnd("older checkpoint", x, 1, 3, 4);

        StoreLog3 y = downStore(16);
        Images.lay(y, 0, Images.page(0, 4294967295L, 0, 2, Images.pair(1, 1)));
        Images.lay(y, 1, Images.page(1, 0, 1, 2, Images.pair(2, 2)));
        due("pages over the top", y.start(), 0);
        dueEnd("pages over the top", y, 0, 1, 2);
        due("second page", y.get(2), 2);

        StoreLog3 z = downStore(16);
        Images.lay(z, 0, Images.page(0, 4294967294L, 0, 1));
        z.start();
        z.begin();
        z.put(0, 1, 1);
        z.sync();
        due("the top serial", z.count(0), -1);
        due("its bytes", z.at(1, 1) + z.at(1, 2) + z.at(1, 3) + z.at(1, 4), 4 * 255);
        z.put(0, 1, 2);
        z.sync();
        due("serial 0", z.count(0), 0);
    }

    private static void laterHolder() {
        StoreLog3 x = downStore(16);
        Images.lay(x, 1, Images.log(1, 2, put(0, 1, 10), put(0, 2, 20), put(1, 1, 11), commit(0)));
        due("start", x.start(), 1);
        due("the later one's key", x.get(1), NONE);
        due("its own key", x.get(2), 20);
        StoreLog3 y = downStore(16);
        Images.lay(y, 1, Images.log(1, 2, put(0, 1, 10), put(1, 1, 11), put(0, 1, 12), commit(1)));
        Images.lay(y, 2, Images.log(2, 3, commit(0)));
        due("start", y.start(), 0);
        due("taken back", y.get(1), 12);
        StoreLog3 z = downStore(16);
        Images.lay(z, 1, Images.log(1, 2, put(0, 1, 10), Images.entry(1, Images.GOES, 1, 0), commit(1), commit(0)));
        due("start", z.start(), 0);
        due("gone", z.get(1), NONE);
    }

    private static void endsWithoutBeginning() {
        StoreLog3 x = downStore(16);
        Images.lay(x, 1, Images.log(1, 2, commit(2), undo(1), put(0, 1, 1), undo(0)));
        Images.lay(x, 2, Images.log(2, 3, put(0, 2, 2), commit(0), commit(0), put(2, 3, 3)));
        due("one is undone", x.start(), 1);
        due("undone in the log", x.get(1), NONE);
        due("committed in the log", x.get(2), 2);
        due("undone by the start", x.get(3), NONE);
        due("no commits since it runs", x.count(6), 0);
    }

    /** Logs that a damaged one had cut off come back behind the one written in its place. */
    private static void staleLogs() {
        StoreLog3 x = new StoreLog3(16);
        for (int n = 0; n < 6; n++) {
            x.begin();
            x.put(0, n, n);
            x.commit(0);
        }
        x.sync();
        x.poke(2, 9, 4);
        x.cut(0, 0);
        due("start", x.start(), 0);
        dueEnd("before the damage", x, 2, 1, 2);
        due("what the damaged one told", x.get(2), NONE);
        x.begin();
        x.put(0, 20, 200);
        x.sync();
        x.cut(0, 0);
        due("start over the old log", x.start(), 0);
        dueEnd("the old log too", x, 4, 3, 4);
        due("committed by the old log", x.get(20), 200);
        due("old log", x.get(5), 5);
    }

    private static void tellingLogs() {
        dueLog("one entry", 5, 1, true);
        dueLog("four entries", 5, 4, true);
        dueLog("no entry", 5, 0, false);
        dueLog("five entries", 5, 5, false);
        dueLog("as many as a byte can tell", 5, 255, false);
        dueLog("kind 0", 0, 0, false);
        dueLog("kind 3", 0, 3, false);
        dueLog("kind 129", 0, 129, false);
        dueLog("transaction 2 is undone", 6, 11, true);
        dueLog("transaction 3", 6, 12, false);
        dueLog("transaction 63", 6, 255, false);
        dueLog("key 31", 7, 31, true);
        dueLog("key 32", 7, 32, false);
        dueLog("key 255", 7, 255, false);
        dueLog("second entry's key 32 does not count", 12, 32, true);
        dueLog("byte 26 and 27 do not count", 26, 9, true);
    }

    /** Changes a byte of a log of one entry; it stands in the run only if it tells. */
    private static void dueLog(String what, int i, int value, boolean tells) {
        StoreLog3 x = downStore(16);
        int[] image = Images.log(1, 2, put(1, 3, 3));
        image[i] = value;
        Images.lay(x, 1, Images.sealed(1, image));
        due(what + ", sound", x.sound(1) ? 1 : 0, 1);
        due(what + ", start", x.start() >= 0 ? 1 : 0, 1);
        due(what + ", serial", x.count(0), tells ? 2 : 1);
    }

    private static void tellingPages() {
        duePage("no key", 5, 0, true);
        duePage("five keys", 5, 5, true);
        duePage("six keys", 5, 6, false);
        duePage("as many as a byte can tell", 5, 255, false);
        duePage("key 31", 6, 31, true);
        duePage("key 32", 6, 32, false);
        duePage("second key 32 does not count", 10, 32, true);
        duePage("kind 3", 0, 3, false);
        duePage("as many pages as which", 26, 2, false);
        duePage("no pages", 27, 0, false);
        duePage("page 0 of 255", 27, 255, true);
    }

    /** Changes a byte of a page that stands behind the checkpoint and has no page behind it. */
    private static void duePage(String what, int i, int value, boolean tells) {
        StoreLog3 x = downStore(16);
        int[] image = Images.page(1, 2, 0, 2, Images.pair(4, 4));
        image[i] = value;
        Images.lay(x, 1, Images.sealed(1, image));
        due(what + ", start", x.start(), 0);
        due(what + ", serial", x.count(0), tells ? 2 : 1);
        due(what + ", needed", x.count(4), tells ? 2 : 1);
    }

    private static void tornCheckpoint() {
        for (int keep = 0; keep <= 3; keep++) {
            StoreLog3 x = new StoreLog3(32);
            for (int key = 0; key < 6; key++) {
                x.begin();
                x.put(0, key, key + 100);
                x.commit(0);
            }
            x.sync();
            x.begin();
            x.put(0, 0, NONE);
            x.commit(0);
            x.begin();
            x.put(0, 6, 106);
            x.commit(0);
            due("pages", x.checkpoint(), 2);
            due("cut", x.cut(keep, 31), 3);
            due("start", x.start(), 0);
            due("key 0", x.get(0), keep == 0 ? 100 : NONE);
            due("key 5", x.get(5), 105);
            due("key 6", x.get(6), keep == 0 ? NONE : 106);
            due("needed", x.count(4), keep == 3 ? 2 : 4 + keep);
            due("serial", x.count(0), 4 + keep);
        }
    }
}
