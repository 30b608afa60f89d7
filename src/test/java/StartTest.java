/** What the terms say of a cut and a start, sentence by sentence, mostly on disks that were laid by hand. */
public final class StartTest {
    private static final int NONE = Scenes.NONE, FULL = Scenes.FULL, DOWN = Scenes.DOWN, BROKEN = Scenes.BROKEN;
    private static final Checks checks = new Checks();

    public static void main(String[] args) {
        keptAndTorn();
        memoryIsGone();
        isDown();
        soundAlone();
        tellingLogs();
        tellingPages();
        serialsWithoutSign();
        runsOneBehindTheOther();
        runsRound();
        checkpointThere();
        checkpointRound();
        manyPages();
        greatestSerial();
        sameSerial();
        justItsKeys();
        longestRun();
        oldLogsBehind();
        pagesPassedOver();
        entriesInOrder();
        openFromFirstEntry();
        laterHolder();
        openAreUndone();
        nextSector();
        neededThen();
        checks.finish();
    }

    private static void due(String what, long got, long want) {
        checks.due(what, got, want);
    }

    private static void due(String what, boolean got, boolean want) {
        checks.due(what, got, want);
    }

    private static void dueEnd(String what, StoreLog3 x, int serial, int sector, int needed) {
        due(what + ", serial", x.count(0), serial);
        due(what + ", sector", x.count(1), sector);
        due(what + ", needed", x.count(4), needed);
    }

    private static int[] put(int transaction, int key, int value) {
        return Images.entry(transaction, Images.PUT, key, value);
    }

    private static int[] goes(int transaction, int key) {
        return Images.entry(transaction, Images.GOES, key, 0);
    }

    private static int[] commit(int transaction) {
        return Images.entry(transaction, Images.COMMIT, 0, 0);
    }

    private static int[] undo(int transaction) {
        return Images.entry(transaction, Images.UNDO, 0, 0);
    }

    private static int[] onePage(int sector, long serial, int value) {
        return Images.page(sector, serial, 0, 1, Images.pair(3, value));
    }

    private static void keptAndTorn() {
        checks.about(10, "of the writes that wait the first keep ones are put on the disk, "
                + "of the next one just its first tear bytes");
        int[][] logs = {Images.log(1, 2, put(0, 0, 1000), put(0, 1, 1001), put(0, 2, 1002), put(0, 3, 1003)),
            Images.log(2, 3, put(0, 4, 1004), put(0, 0, 1005), put(0, 1, 1006), put(0, 2, 1007)),
            Images.log(3, 4, put(0, 3, 1008), put(0, 4, 1009), put(0, 0, 1010), put(0, 1, 1011))};
        for (int keep = 0; keep < 3; keep++) {
            for (int tear = 0; tear <= 32; tear++) {
                StoreLog3 x = Scenes.waiting(16, 3, 0);
                for (int sector = 1; sector <= 3; sector++) {
                    x.poke(sector, 0, 170);
                    x.poke(sector, 17, 170);
                    x.poke(sector, 31, 170);
                }
                x.cut(keep, tear);
                for (int n = 0; n < 3; n++) {
                    int length = n < keep ? 32 : n == keep ? tear : 0;
                    for (int i = 0; i < 32; i++) {
                        int old = i == 0 || i == 17 || i == 31 ? 170 : 0;
                        due("keep " + keep + " tear " + tear + ", log " + n + " byte " + i, x.at(1 + n, i),
                                i < length ? logs[n][i] : old);
                    }
                    due("sound when whole", x.sound(1 + n), length == 32);
                }
            }
        }
    }

    private static void memoryIsGone() {
        checks.about(10, "all else that is in memory is gone.");
        StoreLog3 x = new StoreLog3(16);
        Scenes.commitOne(x, 1, 10);
        x.sync();
        x.begin();
        x.begin();
        x.put(0, 2, 20);
        x.put(1, 1, 11);
        x.commit(0);
        x.put(1, 3, 30);
        x.put(1, 4, 40);
        due("one waits", x.cut(0, 0), 1);
        due("start", x.start(), 0);
        due("synced", x.get(1), 10);
        due("waiting", x.get(2), NONE);
        due("nobody holds", x.holder(1) + x.holder(3), 2 * NONE);
        due("none is open", x.count(5), 0);
        due("no entries", x.count(3), 0);
        due("no writes", x.count(2), 0);
        due("no commits", x.count(6), 0);
        due("nothing to sync", x.sync(), 0);
        StoreLog3 y = Scenes.withKeys(16, 1);
        y.sync();
        y.checkpoint();
        y.cut(0, 31);
        y.start();
        Scenes.commitOne(y, 2, 2);
        y.sync();
        due("a checkpoint that waited does not count", y.count(4), 3);
    }

    private static void isDown() {
        checks.about(10, "The store is DOWN then.");
        StoreLog3 x = new StoreLog3(16);
        x.cut(0, 0);
        due("begin", x.begin(), DOWN);
        due("cut", x.cut(0, 0), DOWN);
        due("start", x.start(), 0);
        due("begin then", x.begin(), 0);
    }

    private static void soundAlone() {
        checks.about(11, "A START looks alone at sectors that are sound and TELL");
        for (int i = 0; i < 32; i++) {
            StoreLog3 x = Scenes.down(16);
            Images.lay(x, 1, Images.log(1, 2, put(0, 1, 1), commit(0)));
            Images.lay(x, 5, onePage(5, 1000, 9));
            x.poke(5, i, 64);
            if (i % 2 == 0) {
                x.poke(1, i, 64);
            }
            due("start with byte " + i + " changed", x.start(), 0);
            due("page", x.get(3), NONE);
            due("log", x.get(1), i % 2 == 0 ? NONE : 1);
        }
        StoreLog3 y = Scenes.down(16);
        Images.lay(y, 1, Images.log(2, 2, put(0, 1, 1), commit(0)));
        due("start", y.start(), 0);
        due("with another sector's sum", y.get(1), NONE);
        StoreLog3 z = Scenes.down(16);
        Images.lay(z, 1, Images.sealed(1, new int[] {0, 0, 0, 0, 2, 1, 0, 0, 0, 0, 0, 0, 0, 0, 0, 0, 0, 0, 0, 0, 0, 0, 0, 0,
            0, 0, 0, 1, 0, 0, 0, 0}));
        due("start", z.start(), 0);
        due("sound, but tells nothing", z.count(0), 1);
    }

    private static void tellingLogs() {
        checks.about(11, "LOGS with 1 .. 4 entries of transactions 0 .. 2 and keys 0 .. 31");
        int[][] tell = {{1}, {4}, {1, 6, 0}, {1, 6, 11}, {1, 7, 0}, {1, 7, 31}, {1, 11, 255}, {1, 12, 32}, {2, 16, 12},
            {3, 22, 32}, {4, 21, 11}, {4, 22, 31}, {1, 26, 9}, {1, 27, 255}, {1, 8, 255}};
        for (int[] row : tell) {
            dueLog(row, true);
        }
        int[][] others = {{0}, {5}, {6}, {128}, {255}, {1, 6, 12}, {1, 6, 128}, {1, 6, 255}, {1, 7, 32}, {1, 7, 128},
            {1, 7, 255}, {2, 11, 12}, {2, 12, 32}, {3, 16, 12}, {3, 17, 32}, {4, 21, 12}, {4, 22, 32}, {1, 0, 0}, {1, 0, 3},
            {1, 0, 129}, {1, 0, 255}};
        for (int[] row : others) {
            dueLog(row, false);
        }
        // Also a commit has a key that is looked at.
        StoreLog3 x = Scenes.down(16);
        Images.lay(x, 1, Images.log(1, 2, Images.entry(0, Images.COMMIT, 32, 0)));
        due("start", x.start(), 0);
        due("commit of key 32", x.count(0), 1);
    }

    /** A log of so many entries and perhaps a byte that is changed: it stands in the run only if it tells. */
    private static void dueLog(int[] row, boolean tells) {
        StoreLog3 x = Scenes.down(16);
        int[] image = Images.log(1, 2, put(1, 3, 3), put(1, 4, 4), put(1, 5, 5), put(1, 6, 6));
        image[5] = row[0];
        String what = "log of " + row[0];
        if (row.length > 1) {
            image[row[1]] = row[2];
            what += " with byte " + row[1] + " = " + row[2];
        }
        Images.lay(x, 1, Images.sealed(1, image));
        due(what + ", sound", x.sound(1), true);
        due(what + ", start", x.start() >= 0, true);
        due(what + ", serial", x.count(0), tells ? 2 : 1);
    }

    private static void tellingPages() {
        checks.about(11, "PAGES with 0 .. 5 keys 0 .. 31, byte 26 less than byte 27");
        int[][] tell = {{0}, {1}, {5}, {1, 6, 31}, {1, 10, 32}, {4, 22, 32}, {5, 22, 31}, {5, 7, 255}, {1, 26, 1},
            {1, 27, 255}};
        for (int[] row : tell) {
            duePage(row, true);
        }
        int[][] others = {{6}, {7}, {128}, {255}, {1, 6, 32}, {1, 6, 255}, {2, 10, 32}, {3, 14, 32}, {4, 18, 32}, {5, 22, 32},
            {1, 26, 2}, {1, 26, 3}, {1, 26, 255}, {1, 27, 0}, {1, 0, 3}, {1, 0, 130}};
        for (int[] row : others) {
            duePage(row, false);
        }
    }

    /** A page without a second one: it is no checkpoint, and stands in the run only if it tells. */
    private static void duePage(int[] row, boolean tells) {
        StoreLog3 x = Scenes.down(16);
        int[] image = Images.page(1, 2, 0, 2, Images.pair(4, 4), Images.pair(5, 5), Images.pair(6, 6), Images.pair(7, 7),
                Images.pair(8, 8));
        image[5] = row[0];
        String what = "page of " + row[0];
        if (row.length > 1) {
            image[row[1]] = row[2];
            what += " with byte " + row[1] + " = " + row[2];
        }
        Images.lay(x, 1, Images.sealed(1, image));
        due(what + ", start", x.start(), 0);
        dueEnd(what, x, tells ? 2 : 1, tells ? 1 : 0, tells ? 2 : 1);
    }

    private static void serialsWithoutSign() {
        checks.about(11, "serials are numbers without sign");
        long[][] pairs = {{2147483648L, 2147483647}, {4294967295L, 2147483647}, {4294967295L, 2147483648L},
            {4294967295L, 0}, {2147483648L, 0}, {1, 0}, {256, 255}, {65536, 65535}, {16777216, 16777215}};
        for (long[] pair : pairs) {
            for (int place = 0; place < 2; place++) {
                StoreLog3 x = Scenes.down(16);
                x.poke(0, 0, 255);
                Images.lay(x, 4 + place, onePage(4 + place, pair[0], 1));
                Images.lay(x, 9 - place, onePage(9 - place, pair[1], 2));
                due("start", x.start(), 0);
                due(pair[0] + " is greater than " + pair[1], x.get(3), 1);
                due("serial", x.count(0), (int) pair[0]);
            }
        }
    }

    private static void runsOneBehindTheOther() {
        checks.about(11, "A RUN of sectors stands one behind the other, round, with serials rising by 1.");
        long[][] serials = {{2, 3, 4, 5}, {2, 3, 5, 6}, {2, 3, 3, 4}, {2, 3, 2, 3}, {2, 3, 0, 4}, {3, 4, 5, 6}, {1, 2, 3, 4}};
        int[] lengths = {4, 2, 2, 2, 2, 0, 0};
        for (int row = 0; row < serials.length; row++) {
            StoreLog3 x = Scenes.down(16);
            for (int n = 0; n < 4; n++) {
                Images.lay(x, n + 1, Images.log(n + 1, serials[row][n], put(0, n, n), commit(0)));
            }
            due("start", x.start(), 0);
            for (int n = 0; n < 4; n++) {
                due("row " + row + ", log " + n, x.get(n), n < lengths[row] ? n : NONE);
            }
            dueEnd("row " + row, x, 1 + lengths[row], lengths[row], 1 + lengths[row]);
        }
        StoreLog3 y = Scenes.down(16);
        Images.lay(y, 1, Images.log(1, 2, put(0, 1, 1), commit(0)));
        Images.lay(y, 3, Images.log(3, 3, put(0, 2, 2), commit(0)));
        due("start", y.start(), 0);
        due("behind a sector that tells nothing", y.get(2), NONE);
        dueEnd("a gap", y, 2, 1, 2);
    }

    private static void runsRound() {
        checks.about(11, "A RUN of sectors stands one behind the other, round, with serials rising by 1.");
        int[] sizes = {16, 17, 64};
        for (int size : sizes) {
            StoreLog3 x = Scenes.down(size);
            Images.lay(x, size - 2, onePage(size - 2, 70, 7));
            Images.lay(x, size - 1, Images.log(size - 1, 71, put(0, 1, 1), commit(0)));
            Images.lay(x, 0, Images.log(0, 72, put(0, 2, 2), commit(0)));
            Images.lay(x, 1, Images.log(1, 73, put(0, 4, 4), commit(0)));
            due("start", x.start(), 0);
            due("before the turn", x.get(1), 1);
            due("at the turn", x.get(2), 2);
            due("behind the turn", x.get(4), 4);
            dueEnd("round", x, 73, 1, 4);
        }
        StoreLog3 top = Scenes.down(16);
        Images.lay(top, 14, onePage(14, 4294967295L, 7));
        Images.lay(top, 15, Images.log(15, 0, put(0, 1, 1)));
        Images.lay(top, 0, Images.log(0, 1, commit(0)));
        due("start", top.start(), 0);
        due("round in sectors and serials", top.get(1), 1);
        dueEnd("over the top", top, 1, 0, 3);
    }

    private static void checkpointThere() {
        checks.about(11, "A checkpoint is THERE when all its pages are, as a run from page 0 to the last one "
                + "(each naming as many pages).");
        dueMiddlePage("right", Images.page(6, 101, 1, 3), true);
        dueMiddlePage("naming fewer", Images.page(6, 101, 1, 2), false);
        dueMiddlePage("naming more", Images.page(6, 101, 1, 4), false);
        dueMiddlePage("page 0 twice", Images.page(6, 101, 0, 3), false);
        dueMiddlePage("last page twice", Images.page(6, 101, 2, 3), false);
        dueMiddlePage("serial too great", Images.page(6, 102, 1, 3), false);
        dueMiddlePage("serial too small", Images.page(6, 100, 1, 3), false);
        dueMiddlePage("not sound", Images.page(7, 101, 1, 3), false);
        dueMiddlePage("nothing", new int[32], false);
        int[] log = Images.log(6, 101, put(0, 0, 0));
        log[26] = 1;
        log[27] = 3;
        dueMiddlePage("a log", Images.sealed(6, log), false);
        StoreLog3 x = Scenes.down(16);
        Images.lay(x, 0, Images.page(0, 1, 1, 2));
        due("without a page 0", x.start(), BROKEN);
        StoreLog3 y = Scenes.down(16);
        Images.lay(y, 0, Images.page(0, 1, 0, 2));
        due("without a last page", y.start(), BROKEN);
        Images.lay(y, 1, Images.page(1, 2, 1, 2));
        due("with it", y.start(), 0);
        for (int keep = 0; keep <= 3; keep++) {
            tornCheckpoint(keep, 31, keep == 3);
            tornCheckpoint(keep, 32, keep >= 2);
        }
    }

    /** Lays a sector between pages 0 and 2 of a checkpoint of three pages. */
    private static void dueMiddlePage(String what, int[] middle, boolean there) {
        StoreLog3 x = Scenes.down(16);
        Images.lay(x, 5, Images.page(5, 100, 0, 3, Images.pair(1, 1)));
        Images.lay(x, 6, middle);
        Images.lay(x, 7, Images.page(7, 102, 2, 3, Images.pair(3, 3)));
        due(what + ", start", x.start(), 0);
        due(what + ", serial", x.count(0), there ? 102 : 1);
        due(what + ", needed", x.count(4), there ? 3 : 1);
        due(what + ", key", x.get(3), there ? 3 : NONE);
    }

    /** A log and a checkpoint of two pages wait when the cut comes. */
    private static void tornCheckpoint(int keep, int tear, boolean there) {
        StoreLog3 x = new StoreLog3(32);
        for (int key = 0; key < 6; key++) {
            Scenes.commitOne(x, key, key + 100);
        }
        x.sync();
        Scenes.commitOne(x, 0, NONE);
        Scenes.commitOne(x, 6, 106);
        due("pages", x.checkpoint(), 2);
        due("cut", x.cut(keep, tear), 3);
        int put = Math.min(3, keep + tear / 32);
        due("start", x.start(), 0);
        due("key 0", x.get(0), put == 0 ? 100 : NONE);
        due("key 5", x.get(5), 105);
        due("key 6", x.get(6), put == 0 ? NONE : 106);
        dueEnd("keep " + keep + " tear " + tear, x, 4 + put, 3 + put, there ? 2 : 4 + put);
    }

    private static void checkpointRound() {
        checks.about(11, "A checkpoint is THERE when all its pages are, as a run from page 0 to the last one");
        StoreLog3 x = Scenes.down(17);
        Images.lay(x, 16, Images.page(16, 4294967295L, 0, 3, Images.pair(1, 1)));
        Images.lay(x, 0, Images.page(0, 0, 1, 3, Images.pair(2, 2)));
        Images.lay(x, 1, Images.page(1, 1, 2, 3, Images.pair(31, 16777215)));
        due("start", x.start(), 0);
        due("first page", x.get(1), 1);
        due("second page", x.get(2), 2);
        due("third page", x.get(31), 16777215);
        dueEnd("round", x, 1, 1, 3);
    }

    private static void manyPages() {
        checks.about(11, "A checkpoint is THERE when all its pages are, as a run from page 0 to the last one");
        for (int pages = 15; pages <= 17; pages++) {
            StoreLog3 x = Scenes.down(16);
            for (int sector = 0; sector < 16; sector++) {
                Images.lay(x, sector, Images.page(sector, 50 + sector, sector % pages, pages, Images.pair(sector, sector)));
            }
            due(pages + " pages in 16 sectors", x.start(), pages == 17 ? BROKEN : 0);
            due("last key", x.get(14), pages == 17 ? DOWN : 14);
            due("key behind them", x.get(15), pages == 17 ? DOWN : pages == 16 ? 15 : NONE);
            due("needed", x.count(4), pages == 17 ? DOWN : 16);
            due("no room", x.checkpoint(), pages == 17 ? DOWN : FULL);
        }
        StoreLog3 y = Scenes.down(16);
        Images.lay(y, 0, Images.page(0, 1, 0, 255));
        due("as many pages as a byte can name", y.start(), BROKEN);
    }

    private static void greatestSerial() {
        checks.about(11, "Of all that are there the one whose first page has the greatest serial is taken");
        StoreLog3 x = Scenes.down(16);
        Images.lay(x, 9, onePage(9, 500, 9));
        Images.lay(x, 4, onePage(4, 501, 4));
        Images.lay(x, 12, onePage(12, 499, 12));
        due("start", x.start(), 0);
        due("between others", x.get(3), 4);
        dueEnd("between others", x, 501, 4, 1);
        StoreLog3 y = Scenes.down(16);
        Images.lay(y, 2, Images.page(2, 500, 0, 2, Images.pair(3, 2)));
        Images.lay(y, 3, Images.page(3, 501, 1, 2));
        Images.lay(y, 9, Images.page(9, 501, 0, 1, Images.pair(3, 9)));
        due("start", y.start(), 0);
        due("the first page's, not the last one's", y.get(3), 9);
        StoreLog3 z = Scenes.down(16);
        Images.lay(z, 2, onePage(2, 500, 2));
        Images.lay(z, 9, Images.page(9, 600, 0, 2, Images.pair(3, 9)));
        due("start", z.start(), 0);
        due("one that is not there does not count", z.get(3), 2);
        StoreLog3 logs = Scenes.down(16);
        Images.lay(logs, 1, Images.log(1, 2, put(0, 1, 1), commit(0)));
        Images.lay(logs, 2, Images.log(2, 3, put(0, 2, 2), commit(0)));
        Images.lay(logs, 8, onePage(8, 2, 8));
        due("start", logs.start(), 0);
        due("though another's run ends later", logs.count(0), 2);
    }

    private static void sameSerial() {
        checks.about(11, "(of the same the one in the lesser sector)");
        int[][] places = {{9, 4}, {4, 9}, {0, 15}, {15, 0}, {1, 2}};
        for (int[] place : places) {
            StoreLog3 x = Scenes.down(16);
            Images.lay(x, place[0], onePage(place[0], 500, place[0]));
            Images.lay(x, place[1], onePage(place[1], 500, place[1]));
            due("start", x.start(), 0);
            due("lesser of " + place[0] + " and " + place[1], x.get(3), Math.min(place[0], place[1]));
        }
    }

    private static void justItsKeys() {
        checks.about(11, "it has just its keys.");
        StoreLog3 x = new StoreLog3(16);
        Scenes.commitOne(x, 1, 1);
        x.sync();
        x.begin();
        x.put(0, 2, 2);
        x.cut(0, 0);
        Images.lay(x, 8, Images.page(8, 90, 0, 1, Images.pair(0, 0), Images.pair(5, 6), Images.pair(31, 16777215)));
        due("start", x.start(), 0);
        for (int key = 0; key < 32; key++) {
            due("key " + key, x.get(key), key == 0 ? 0 : key == 5 ? 6 : key == 31 ? 16777215 : NONE);
            due("holder of " + key, x.holder(key), NONE);
        }
        StoreLog3 y = Scenes.down(16);
        int[] image = Images.page(8, 90, 0, 1, Images.pair(1, 1), Images.pair(2, 2));
        image[5] = 1;
        Images.lay(y, 8, Images.sealed(8, image));
        due("start", y.start(), 0);
        due("as many as byte 5 says", y.get(1), 1);
        due("no more than these", y.get(2), NONE);
    }

    private static void longestRun() {
        checks.about(11, "From it the LOGS are gone over that stand in the longest run that begins behind its last page");
        for (int logs = 0; logs <= 15; logs++) {
            StoreLog3 x = Scenes.down(16);
            for (int n = 1; n <= logs; n++) {
                Images.lay(x, n, Images.log(n, n + 1, put(0, n, n), commit(0)));
            }
            due("start", x.start(), 0);
            for (int n = 1; n <= 15; n++) {
                due("log " + n + " of " + logs, x.get(n), n <= logs ? n : NONE);
            }
            dueEnd("logs " + logs, x, 1 + logs, logs, 1 + logs);
        }
        StoreLog3 y = Scenes.down(16);
        Images.lay(y, 6, Images.log(6, 99, put(0, 1, 1), commit(0)));
        Images.lay(y, 7, Images.page(7, 100, 0, 2, Images.pair(2, 2)));
        Images.lay(y, 8, Images.page(8, 101, 1, 2, Images.pair(3, 3)));
        Images.lay(y, 9, Images.log(9, 102, put(0, 4, 4), commit(0)));
        due("start", y.start(), 0);
        due("not what stands before it", y.get(1), NONE);
        due("behind its last page", y.get(4), 4);
        dueEnd("two pages and a log", y, 102, 9, 3);
    }

    /** Logs of an earlier round, or those that a damaged one had cut off. */
    private static void oldLogsBehind() {
        checks.about(11, "From it the LOGS are gone over that stand in the longest run that begins behind its last page");
        StoreLog3 x = new StoreLog3(16);
        for (int n = 0; n < 28; n++) {
            Scenes.commitOne(x, 1, n);
        }
        x.checkpoint();
        x.sync();
        Scenes.commitOne(x, 1, 99);
        x.checkpoint();
        x.sync();
        // Without this the older logs would lead round to the checkpoint itself, and to the same state.
        x.poke(8, 9, 4);
        x.cut(0, 0);
        due("start", x.start(), 0);
        due("older logs behind it do not count", x.get(1), 99);
        dueEnd("no log", x, 18, 1, 1);
        Scenes.commitOne(x, 1, 100);
        x.sync();
        x.cut(0, 0);
        due("start", x.start(), 0);
        due("nor those behind a newer one", x.get(1), 100);
        dueEnd("one log", x, 19, 2, 2);

        StoreLog3 y = new StoreLog3(16);
        for (int n = 0; n < 6; n++) {
            Scenes.commitOne(y, n, n);
        }
        y.sync();
        y.poke(2, 9, 4);
        y.cut(0, 0);
        due("start", y.start(), 0);
        dueEnd("before the damage", y, 2, 1, 2);
        due("what the damaged one told", y.get(2), NONE);
        y.begin();
        y.put(0, 20, 200);
        y.sync();
        y.cut(0, 0);
        due("start over the old log", y.start(), 0);
        dueEnd("the old log too", y, 4, 3, 4);
        due("committed by the old log", y.get(20), 200);
        due("old log", y.get(5), 5);
    }

    private static void pagesPassedOver() {
        checks.about(11, "(pages in it are passed over)");
        StoreLog3 x = Scenes.down(16);
        Images.lay(x, 1, Images.log(1, 2, put(0, 1, 1)));
        Images.lay(x, 2, Images.page(2, 3, 0, 2, Images.pair(9, 9), Images.pair(1, 7)));
        Images.lay(x, 3, Images.log(3, 4, commit(0)));
        Images.lay(x, 4, Images.page(4, 5, 1, 2, Images.pair(10, 10)));
        due("start", x.start(), 0);
        due("done over a page", x.get(1), 1);
        due("no key of that page", x.get(9), NONE);
        due("nor of the last one", x.get(10), NONE);
        dueEnd("up to the last page", x, 5, 4, 5);
        StoreLog3 y = Scenes.down(16);
        Images.lay(y, 0, onePage(0, 4294967295L, 1));
        Images.lay(y, 1, onePage(1, 0, 2));
        Images.lay(y, 2, Images.log(2, 1, put(0, 4, 4), commit(0)));
        due("start", y.start(), 0);
        due("a whole checkpoint too, behind the top serial", y.get(3), 1);
        due("and what stands behind it", y.get(4), 4);
        dueEnd("over it", y, 1, 2, 3);
    }

    private static void entriesInOrder() {
        checks.about(11, "entries in their order, as they were done");
        StoreLog3 x = Scenes.down(16);
        Images.lay(x, 1, Images.log(1, 2, put(0, 1, 1), put(0, 1, 2), commit(0), put(0, 1, 3)));
        Images.lay(x, 2, Images.log(2, 3, undo(0), put(2, 2, 0), put(1, 3, 16777215), goes(1, 4)));
        Images.lay(x, 3, Images.log(3, 4, commit(1), commit(2), goes(0, 2), commit(0)));
        due("start", x.start(), 0);
        due("put last and committed", x.get(1), 2);
        due("gone", x.get(2), NONE);
        due("top value", x.get(3), 16777215);
        due("gone that was not there", x.get(4), NONE);
        due("no commits since it runs", x.count(6), 0);
        StoreLog3 y = Scenes.down(16);
        int[] image = Images.log(1, 2, put(0, 1, 1), commit(0), put(0, 2, 2), commit(0));
        image[5] = 2;
        Images.lay(y, 1, Images.sealed(1, image));
        due("start", y.start(), 0);
        due("as many as byte 5 says", y.get(1), 1);
        due("no more than these", y.get(2), NONE);
        StoreLog3 z = Scenes.down(16);
        Images.lay(z, 0, onePage(0, 1, 30));
        Images.lay(z, 1, Images.log(1, 2, goes(0, 3)));
        Images.lay(z, 2, Images.log(2, 3, undo(0), put(1, 3, 31), undo(1)));
        due("start", z.start(), 0);
        due("as in the checkpoint", z.get(3), 30);
    }

    private static void openFromFirstEntry() {
        checks.about(11, "(a transaction is open from its first entry on that puts or takes");
        StoreLog3 x = Scenes.down(16);
        Images.lay(x, 1, Images.log(1, 2, commit(2), undo(1)));
        due("ends alone", x.start(), 0);
        due("no entries", x.count(3), 0);
        StoreLog3 y = Scenes.down(16);
        Images.lay(y, 1, Images.log(1, 2, commit(0), put(0, 1, 1), undo(1), goes(2, 2)));
        due("one that puts and one that takes", y.start(), 2);
        due("undone", y.get(1), NONE);
        StoreLog3 z = Scenes.down(16);
        Images.lay(z, 1, Images.log(1, 2, put(0, 1, 1), commit(0), commit(0), put(0, 2, 2)));
        due("open again", z.start(), 1);
        due("committed before", z.get(1), 1);
        due("undone", z.get(2), NONE);
    }

    private static void laterHolder() {
        checks.about(11, "and a key that another one holds is the later one's)");
        StoreLog3 x = Scenes.down(16);
        Images.lay(x, 1, Images.log(1, 2, put(0, 1, 10), put(0, 2, 20), put(1, 1, 11), commit(0)));
        due("start", x.start(), 1);
        due("the later one's key", x.get(1), NONE);
        due("its own key", x.get(2), 20);
        StoreLog3 y = Scenes.down(16);
        Images.lay(y, 1, Images.log(1, 2, put(0, 1, 10), put(1, 1, 11), put(0, 1, 12), commit(1)));
        Images.lay(y, 2, Images.log(2, 3, commit(0)));
        due("start", y.start(), 0);
        due("taken back", y.get(1), 12);
        StoreLog3 z = Scenes.down(16);
        Images.lay(z, 1, Images.log(1, 2, put(0, 1, 10), goes(1, 1), commit(0), commit(1)));
        due("start", z.start(), 0);
        due("gone", z.get(1), NONE);
        StoreLog3 undone = Scenes.down(16);
        Images.lay(undone, 0, onePage(0, 1, 30));
        Images.lay(undone, 1, Images.log(1, 2, put(0, 3, 31), put(1, 3, 32), undo(1), commit(0)));
        due("the other one has no key, but was open", undone.start(), 0);
        due("as before both", undone.get(3), 30);
        StoreLog3 open = Scenes.down(16);
        Images.lay(open, 1, Images.log(1, 2, put(0, 1, 10), put(1, 1, 11), commit(1)));
        due("open without a key", open.start(), 1);
        due("the later one's value", open.get(1), 11);
    }

    private static void openAreUndone() {
        checks.about(11, "Transactions that are open in the end are undone: an entry for each, by their numbers, "
                + "comes together in memory (as entries do).");
        for (int bits = 0; bits < 8; bits++) {
            StoreLog3 x = Scenes.open(16, 3);
            int[][] undone = new int[Integer.bitCount(bits)][];
            int n = 0;
            for (int transaction = 2; transaction >= 0; transaction--) {
                if ((bits >> transaction & 1) == 1) {
                    x.put(transaction, transaction, 9);
                    n++;
                    undone[undone.length - n] = undo(transaction);
                }
            }
            x.sync();
            x.cut(0, 0);
            due("start", x.start(), n);
            due("entries", x.count(3), n);
            due("none waits", x.count(2), 0);
            due("none is open", x.count(5), 0);
            int sector = n == 0 ? 1 : 2;
            due("sync", x.sync(), n == 0 ? 0 : 1);
            int[] image = n == 0 ? new int[32] : Images.log(sector, 3, undone);
            for (int i = 0; i < 32; i++) {
                due("open " + bits + ", byte " + i, x.at(sector, i), image[i]);
            }
            x.cut(0, 0);
            due("undone once", x.start(), 0);
        }
        StoreLog3 y = Scenes.open(16, 3);
        for (int transaction = 0; transaction < 3; transaction++) {
            y.put(transaction, transaction, 9);
        }
        y.sync();
        y.cut(0, 0);
        y.start();
        y.begin();
        y.commit(0);
        due("three and one more are a log", y.count(2), 1);
        due("no entries then", y.count(3), 0);
        StoreLog3 full = Scenes.full(16, 0);
        full.cut(15, 0);
        due("also when all is full", full.start(), 1);
        due("its entry", full.count(3), 1);
    }

    private static void nextSector() {
        checks.about(11, "The next sector to be written is that behind the run, with the next serial.");
        int[] ends = {0, 1, 14, 15};
        for (int end : ends) {
            StoreLog3 x = Scenes.down(16);
            Images.lay(x, end, onePage(end, 77, 7));
            x.start();
            due("last", x.count(0) * 100 + x.count(1), 7700 + end);
            x.checkpoint();
            x.sync();
            int next = (end + 1) % 16;
            due("sector", x.count(1), next);
            due("serial", x.count(0), 78);
            due("on the disk", x.at(next, 4), 78);
        }
        StoreLog3 y = Scenes.waiting(16, 3, 0);
        y.cut(2, 20);
        y.start();
        y.sync();
        due("over the torn one", y.count(1), 3);
        due("its serial", y.at(3, 4), 4);
        due("sound", y.sound(3), true);
    }

    private static void neededThen() {
        checks.about(11, "Needed are then all from that checkpoint's first page up to the end of the run.");
        for (int pages = 1; pages <= 3; pages++) {
            for (int logs = 0; logs <= 3; logs++) {
                StoreLog3 x = Scenes.down(16);
                for (int page = 0; page < pages; page++) {
                    int sector = (14 + page) % 16;
                    Images.lay(x, sector, Images.page(sector, 90 + page, page, pages));
                }
                for (int n = 0; n < logs; n++) {
                    int sector = (14 + pages + n) % 16;
                    Images.lay(x, sector, Images.log(sector, 90 + pages + n, commit(0)));
                }
                due("start", x.start(), 0);
                due("needed", x.count(4), pages + logs);
                for (int n = pages + logs; n < 16; n++) {
                    due("room", x.checkpoint(), 1);
                }
                due("no more", x.checkpoint(), FULL);
            }
        }
    }
}
