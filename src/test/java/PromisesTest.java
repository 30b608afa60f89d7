/** Promises 1 to 17, sentence by sentence: ordinary inputs, the boundary that it names, wrong inputs. */
public final class PromisesTest {
    private static final int NONE = Scenes.NONE, FULL = Scenes.FULL, DOWN = Scenes.DOWN, BROKEN = Scenes.BROKEN;
    private static final int LEAST = Scenes.LEAST, MOST = Scenes.MOST;
    private static final Checks checks = new Checks();

    public static void main(String[] args) {
        newSectors();
        newAsAtFirst();
        beginLeast();
        beginAllOpen();
        putGoes();
        putHeldByAnother();
        putNone();
        putFull();
        commitHeld();
        commitRefused();
        undoHeld();
        undoRefused();
        get();
        getNone();
        seen();
        seenNotOpen();
        syncEntries();
        syncAll();
        syncFull();
        checkpointPages();
        checkpointWaits();
        checkpointOpen();
        checkpointFull();
        cutWaited();
        cutRefused();
        cutWithoutNext();
        startUndone();
        startRunning();
        startBroken();
        at();
        atNone();
        sound();
        soundNone();
        poke();
        pokeNone();
        counts();
        countNone();
        holder();
        holderNone();
        formatAll();
        formatCommits();
        manyCalls();
        checks.finish();
    }

    private static void about(int promise, String sentence) {
        checks.about(promise, sentence);
    }

    private static void due(String what, long got, long want) {
        checks.due(what, got, want);
    }

    private static void due(String what, boolean got, boolean want) {
        checks.due(what, got, want);
    }

    private static void newSectors() {
        about(1, "So many sectors (the nearest of 16 .. 64)");
        int[][] wishes = {{LEAST, 16}, {-16, 16}, {-1, 16}, {0, 16}, {1, 16}, {15, 16}, {16, 16}, {17, 17}, {40, 40},
            {63, 63}, {64, 64}, {65, 64}, {128, 64}, {MOST, 64}};
        for (int[] wish : wishes) {
            StoreLog3 x = Scenes.full(wish[0], 0);
            due("last sector of " + wish[0], x.at(wish[1] - 1, 31), 0);
            due("sector behind it, of " + wish[0], x.at(wish[1], 0), NONE);
            StoreLog3 y = Scenes.waiting(wish[0], wish[1] - 1, 3);
            due("all are used of " + wish[0], y.count(4), wish[1]);
            due("no more than these of " + wish[0], y.put(0, 0, 0), FULL);
        }
    }

    private static void newAsAtFirst() {
        about(1, "as at first; running");
        for (int sectors = 16; sectors <= 64; sectors += 16) {
            for (int from = 0; from < sectors; from += 8) {
                dueFirstBytes(new StoreLog3(sectors), from);
            }
            dueFirstState(new StoreLog3(sectors));
        }
    }

    private static void dueFirstBytes(StoreLog3 x, int from) {
        for (int sector = from; sector < from + 8; sector++) {
            int[] image = sector == 0 ? Images.page(0, 1, 0, 1) : new int[32];
            for (int i = 0; i < 32; i++) {
                due("sector " + sector + " byte " + i, x.at(sector, i), image[i]);
            }
            due("sound " + sector, x.sound(sector), sector == 0);
        }
    }

    private static void dueFirstState(StoreLog3 x) {
        int[] firsts = {1, 0, 0, 0, 1, 0, 0};
        for (int which = 0; which < firsts.length; which++) {
            due("count " + which, x.count(which), firsts[which]);
        }
        for (int key = 0; key < 32; key++) {
            due("get " + key, x.get(key), NONE);
            due("holder " + key, x.holder(key), NONE);
            due("seen " + key, x.seen(0, key), NONE);
        }
        due("sync", x.sync(), 0);
        due("start while it runs", x.start(), NONE);
        due("begin", x.begin(), 0);
    }

    private static void beginLeast() {
        about(2, "A transaction is open: the least one that was not.");
        StoreLog3 x = new StoreLog3(16);
        for (int transaction = 0; transaction < 3; transaction++) {
            due("begin", x.begin(), transaction);
            due("open", x.count(5), (2 << transaction) - 1);
        }
        due("no entry of a begin", x.count(3), 0);
        for (int transaction = 0; transaction < 3; transaction++) {
            x.undo(transaction);
            due("the only one that is not", x.begin(), transaction);
        }
        x.commit(2);
        x.commit(1);
        due("least of 1 and 2", x.begin(), 1);
        x.commit(0);
        due("least of 0 and 2", x.begin(), 0);
        StoreLog3 full = Scenes.full(16, 3);
        due("also when the disk is full", full.begin(), 1);
    }

    private static void beginAllOpen() {
        about(2, "NONE: all are.");
        StoreLog3 x = Scenes.open(16, 3);
        due("fourth", x.begin(), NONE);
        due("fifth", x.begin(), NONE);
        due("open", x.count(5), 7);
    }

    private static void putGoes() {
        about(3, "A transaction puts a value (NONE: it goes, if there is one or not). 1;");
        StoreLog3 x = new StoreLog3(16);
        Scenes.commitOne(x, 31, 5);
        x.begin();
        int[] values = {0, 1, 16777214, 16777215};
        for (int value : values) {
            due("put " + value, x.put(0, 0, value), 1);
            due("seen " + value, x.seen(0, 0), value);
        }
        due("not committed", x.get(0), NONE);
        due("one goes that is there", x.put(0, 31, NONE), 1);
        due("gone", x.seen(0, 31), NONE);
        due("committed stays", x.get(31), 5);
        due("one goes that is not there", x.put(0, 30, NONE), 1);
        due("held all the same", x.holder(30), 0);
        due("one goes that went", x.put(0, 31, NONE), 1);
        due("one that was put goes", x.put(0, 0, NONE), 1);
        due("each was an entry", x.count(2) * 4 + x.count(3), 2 + 8);
        due("three keys", x.commit(0), 3);
        due("31 is gone", x.get(31), NONE);
    }

    private static void putHeldByAnother() {
        about(3, "0 when another one holds the key");
        StoreLog3 x = Scenes.open(16, 3);
        x.put(0, 0, 1);
        x.put(2, 31, NONE);
        due("put of 0's", x.put(1, 0, 2), 0);
        due("taking of 0's", x.put(2, 0, NONE), 0);
        due("put of what 2 took", x.put(0, 31, 2), 0);
        due("no entry", x.count(3), 2);
        due("holder stays", x.holder(0), 0);
        due("value stays", x.seen(0, 0), 1);
        due("its own", x.put(0, 0, 3), 1);
        x.undo(0);
        due("free when undone", x.put(1, 0, 4), 1);
        x.commit(2);
        due("free when committed", x.put(1, 31, 4), 1);
        StoreLog3 full = Scenes.full(16, 3);
        full.begin();
        due("held and full", full.put(1, 0, 5), 0);
    }

    private static void putNone() {
        about(3, "NONE: it is not open, no such key, value");
        StoreLog3 x = Scenes.open(16, 1);
        x.put(0, 3, 3);
        for (int transaction : Scenes.NO_TRANSACTIONS) {
            due("transaction " + transaction, x.put(transaction, 5, 1), NONE);
        }
        due("transaction 1 is not open", x.put(1, 5, 1), NONE);
        due("transaction 2 is not open", x.put(2, 5, NONE), NONE);
        due("not open, key held by another", x.put(1, 3, 1), NONE);
        for (int key : Scenes.NO_KEYS) {
            due("key " + key, x.put(0, key, 1), NONE);
            due("key " + key + " goes", x.put(0, key, NONE), NONE);
        }
        for (int value : Scenes.NO_VALUES) {
            due("value " + value, x.put(0, 5, value), NONE);
        }
        due("no entry", x.count(3), 1);
        due("no hold", x.holder(5), NONE);
        due("key 0 is one", x.put(0, 0, 1), 1);
        due("key 31 is one", x.put(0, 31, 1), 1);
        x.commit(0);
        due("open no more", x.put(0, 0, 1), NONE);
        StoreLog3 full = Scenes.full(16, 3);
        due("no such key when full", full.put(0, 32, 5), NONE);
        due("no such value when full", full.put(0, 0, 16777216), NONE);
        due("not open when full", full.put(1, 0, 5), NONE);
    }

    private static void putFull() {
        about(3, "FULL: the entry would be the fourth, and that can't be written.");
        StoreLog3 x = Scenes.waiting(16, 14, 3);
        due("the fourth, with one sector left", x.put(0, 9, 0), 1);
        due("all are needed then", x.count(4), 16);
        due("first", x.put(0, 9, 1), 1);
        due("second", x.put(0, 9, 2), 1);
        due("third", x.put(0, 9, 3), 1);
        due("fourth", x.put(0, 9, 4), FULL);
        due("fourth of another key", x.put(0, 10, 4), FULL);
        due("fourth that takes", x.put(0, 9, NONE), FULL);
        due("entries", x.count(3), 3);
        due("value stays", x.seen(0, 9), 3);
        due("no hold", x.holder(10), NONE);
        StoreLog3 y = Scenes.full(16, 0);
        y.sync();
        due("synced logs are needed too", y.put(0, 1, 1) + y.put(0, 1, 2) + y.put(0, 1, 3), 3);
        due("fourth behind a sync", y.put(0, 1, 4), FULL);
    }

    private static void commitHeld() {
        about(4, "A transaction ends, with what it did: how many keys it held.");
        StoreLog3 x = Scenes.open(16, 2);
        x.put(0, 1, 10);
        x.put(0, 1, 11);
        x.put(0, 2, 20);
        x.put(1, 3, 30);
        due("two keys of three puts", x.commit(0), 2);
        due("what was put last", x.get(1), 11);
        due("the other key", x.get(2), 20);
        due("another's is not", x.get(3), NONE);
        due("another's is held", x.holder(3), 1);
        due("held no more", x.holder(1), NONE);
        due("ended", x.count(5), 2);
        due("an entry", x.count(3), 1);
        x.put(1, 1, NONE);
        x.put(1, 9, NONE);
        due("those that go count", x.commit(1), 3);
        due("gone", x.get(1), NONE);
        StoreLog3 y = Scenes.open(16, 1);
        due("no key", y.commit(0), 0);
        due("an entry all the same", y.count(3), 1);
        due("ended", y.count(5), 0);
        StoreLog3 z = Scenes.open(16, 1);
        for (int key = 0; key < 32; key++) {
            z.put(0, key, key);
        }
        due("all keys", z.commit(0), 32);
        due("first", z.get(0), 0);
        due("last", z.get(31), 31);
        StoreLog3 last = Scenes.waiting(16, 14, 3);
        due("the fourth, with one sector left", last.commit(0), 5);
        due("that is written", last.count(4), 16);
    }

    private static void commitRefused() {
        about(4, "NONE: it is not open; FULL, as for put().");
        StoreLog3 x = Scenes.open(16, 2);
        for (int transaction : Scenes.NO_TRANSACTIONS) {
            due("transaction " + transaction, x.commit(transaction), NONE);
        }
        due("not open", x.commit(2), NONE);
        x.commit(0);
        due("open no more", x.commit(0), NONE);
        due("commits", x.count(6), 1);
        due("entries", x.count(3), 1);
        StoreLog3 full = Scenes.full(16, 3);
        due("fourth", full.commit(0), FULL);
        due("not open, fourth", full.commit(1), NONE);
        due("stays open", full.count(5), 1);
        due("no commit", full.count(6), 0);
        due("not committed", full.get(0), NONE);
        due("held", full.holder(0), 0);
        due("third", Scenes.full(16, 2).commit(0), 5);
    }

    private static void undoHeld() {
        about(5, "It ends without what it did; likewise.");
        StoreLog3 x = new StoreLog3(16);
        Scenes.commitOne(x, 1, 5);
        x.begin();
        x.put(0, 1, 6);
        x.put(0, 1, NONE);
        x.put(0, 2, 7);
        due("two keys of three puts", x.undo(0), 2);
        due("an entry", x.count(2) * 4 + x.count(3), 6);
        due("value as before", x.get(1), 5);
        due("none as before", x.get(2), NONE);
        due("held no more", x.holder(1), NONE);
        due("ended", x.count(5), 0);
        due("no commit", x.count(6), 1);
        x.begin();
        due("what was undone is not seen", x.seen(0, 1), 5);
        due("no key", x.undo(0), 0);
        due("an entry all the same", x.count(3), 3);
        StoreLog3 z = Scenes.open(16, 1);
        for (int key = 0; key < 32; key++) {
            z.put(0, key, key);
        }
        due("all keys", z.undo(0), 32);
        due("none is there", z.get(31), NONE);
    }

    private static void undoRefused() {
        about(5, "It ends without what it did; likewise.");
        StoreLog3 x = Scenes.open(16, 2);
        for (int transaction : Scenes.NO_TRANSACTIONS) {
            due("transaction " + transaction, x.undo(transaction), NONE);
        }
        due("not open", x.undo(2), NONE);
        x.undo(0);
        due("open no more", x.undo(0), NONE);
        due("entries", x.count(3), 1);
        StoreLog3 full = Scenes.full(16, 3);
        due("fourth", full.undo(0), FULL);
        due("not open, fourth", full.undo(1), NONE);
        due("stays open", full.count(5), 1);
        due("held", full.holder(0), 0);
        due("its value stays", full.seen(0, 2), 1062);
        due("third", Scenes.full(16, 2).undo(0), 5);
        due("fourth, with one sector left", Scenes.waiting(16, 14, 3).undo(0), 5);
    }

    private static void get() {
        about(6, "A key's value as it was committed last");
        StoreLog3 x = new StoreLog3(16);
        Scenes.commitOne(x, 0, 7);
        Scenes.commitOne(x, 0, 0);
        Scenes.commitOne(x, 31, 16777215);
        due("least key and value", x.get(0), 0);
        due("greatest key and value", x.get(31), 16777215);
        x.begin();
        x.put(0, 0, 8);
        due("what is held", x.get(0), 0);
    }

    private static void getNone() {
        about(6, "NONE: none, or no such key.");
        StoreLog3 x = new StoreLog3(16);
        Scenes.commitOne(x, 0, 0);
        Scenes.commitOne(x, 31, 31);
        due("none", x.get(15), NONE);
        for (int key : Scenes.NO_KEYS) {
            due("key " + key, x.get(key), NONE);
        }
        Scenes.commitOne(x, 31, NONE);
        due("gone", x.get(31), NONE);
    }

    private static void seen() {
        about(7, "A key's value as an open transaction sees it");
        StoreLog3 x = new StoreLog3(16);
        Scenes.commitOne(x, 0, 40);
        Scenes.commitOne(x, 31, 50);
        x.begin();
        x.begin();
        x.put(0, 0, 41);
        x.put(0, 31, NONE);
        due("own value", x.seen(0, 0), 41);
        due("own that goes", x.seen(0, 31), NONE);
        due("another's value", x.seen(1, 0), 40);
        due("another's that goes", x.seen(1, 31), 50);
        x.commit(0);
        due("when committed", x.seen(1, 0), 41);
        due("when gone", x.seen(1, 31), NONE);
    }

    private static void seenNotOpen() {
        about(7, "NONE likewise, or when it is not open.");
        StoreLog3 x = new StoreLog3(16);
        Scenes.commitOne(x, 0, 40);
        Scenes.commitOne(x, 31, 40);
        x.begin();
        due("open", x.seen(0, 0), 40);
        due("no value", x.seen(0, 6), NONE);
        due("not open", x.seen(1, 0), NONE);
        for (int key : Scenes.NO_KEYS) {
            due("key " + key, x.seen(0, key), NONE);
        }
        for (int transaction : Scenes.NO_TRANSACTIONS) {
            due("transaction " + transaction, x.seen(transaction, 0), NONE);
        }
        x.undo(0);
        due("open no more", x.seen(0, 0), NONE);
    }

    private static void syncEntries() {
        about(8, "Entries that have come together are written as a LOG, if there are any");
        StoreLog3 x = new StoreLog3(16);
        due("nothing", x.sync(), 0);
        due("no serial for nothing", x.count(0), 1);
        x.begin();
        due("a begin is nothing", x.sync(), 0);
        for (int entries = 1; entries <= 4; entries++) {
            for (int n = 0; n < entries; n++) {
                x.put(0, n, n);
            }
            due("sync of " + entries, x.sync(), 1);
            due("on the disk", x.at(entries, 5), entries);
            due("serial", x.count(0), 1 + entries);
            due("no entries", x.count(3), 0);
        }
        due("again nothing", x.sync(), 0);
        due("serial stays", x.count(0), 5);
    }

    private static void syncAll() {
        about(8, "then all that waits is put on the disk: how many writes that were.");
        for (int logs = 0; logs < 16; logs++) {
            for (int entries = 0; entries < 4; entries += 3) {
                if (logs == 15 && entries == 3) {
                    continue;
                }
                StoreLog3 x = Scenes.waiting(16, logs, entries);
                int writes = logs + entries / 3;
                due("not on the disk", x.sound(1), false);
                due("writes", x.sync(), writes);
                for (int sector = 1; sector < 16; sector++) {
                    due("sector " + sector + " of " + writes, x.sound(sector), sector <= writes);
                }
                due("nothing waits", x.count(2), 0);
                due("nothing more", x.sync(), 0);
            }
        }
        StoreLog3 y = Scenes.withKeys(16, 6);
        y.checkpoint();
        Scenes.commitOne(y, 0, 1);
        due("logs, pages and a log", y.sync(), 5);
    }

    private static void syncFull() {
        about(8, "FULL: that LOG can't be written.");
        for (int entries = 1; entries <= 3; entries++) {
            StoreLog3 x = Scenes.full(16, entries);
            due("sync of " + entries, x.sync(), FULL);
            due("all wait", x.count(2), 15);
            due("entries stay", x.count(3), entries);
            due("nothing is put there", x.at(1, 0), 0);
        }
        StoreLog3 y = Scenes.full(16, 0);
        due("without a log", y.sync(), 15);
        due("without anything", y.sync(), 0);
        due("with one sector left", Scenes.waiting(16, 14, 1).sync(), 15);
        StoreLog3 z = Scenes.closed(16, 14);
        z.checkpoint();
        z.begin();
        z.commit(0);
        due("though a checkpoint waits", z.sync(), FULL);
        due("it waits still", z.count(2), 15);
    }

    private static void checkpointPages() {
        about(9, "then the pages (all wait then): how many pages.");
        for (int keys = 0; keys <= 32; keys++) {
            StoreLog3 x = Scenes.withKeys(32, keys);
            due("pages of " + keys, x.checkpoint(), keys == 0 ? 1 : (keys + 4) / 5);
        }
    }

    private static void checkpointWaits() {
        about(9, "entries are written as for sync(), then the pages (all wait then)");
        for (int entries = 0; entries < 4; entries++) {
            StoreLog3 x = new StoreLog3(16);
            for (int n = 0; n < entries; n++) {
                x.begin();
                x.undo(0);
            }
            due("one page", x.checkpoint(), 1);
            int writes = entries == 0 ? 1 : 2;
            due("with " + entries + ", waiting", x.count(2), writes);
            due("entries are gone", x.count(3), 0);
            due("none is on the disk", x.at(1, 0), 0);
            due("serial", x.count(0), 1 + writes);
            due("needed from the first page of all", x.count(4), 1 + writes);
            due("sync", x.sync(), writes);
            due("log before page", x.at(1, 0), entries == 0 ? 2 : 1);
            due("entries of the log", x.at(1, 5), entries);
            due("page", x.at(writes, 0), 2);
            due("needed from its page", x.count(4), 1);
        }
    }

    private static void checkpointOpen() {
        about(9, "NONE when a transaction is open");
        for (int transaction = 0; transaction < 3; transaction++) {
            StoreLog3 x = Scenes.open(16, 3);
            for (int other = 0; other < 3; other++) {
                if (other != transaction) {
                    x.commit(other);
                }
            }
            due("with " + transaction, x.checkpoint(), NONE);
            due("nothing is written", x.count(2), 0);
            due("entries stay", x.count(3), 2);
            x.undo(transaction);
            due("with none", x.checkpoint(), 1);
        }
        due("and full", Scenes.full(16, 0).checkpoint(), NONE);
    }

    private static void checkpointFull() {
        about(9, "FULL: not all of these can be written (nothing is then).");
        StoreLog3 x = Scenes.closed(16, 14);
        due("a page with one sector left", x.checkpoint(), 1);
        due("all are needed", x.count(4), 16);
        due("a page with none left", x.checkpoint(), FULL);
        due("as many wait", x.count(2), 15);
        due("a sync makes room", x.sync(), 15);
        due("one is needed", x.count(4), 1);
        due("a page then", x.checkpoint(), 1);

        StoreLog3 y = Scenes.closed(16, 14);
        y.begin();
        y.undo(0);
        due("a log and a page with one left", y.checkpoint(), FULL);
        due("the log is not written", y.count(2), 14);
        due("the entry stays", y.count(3), 1);
        due("the serial stays", y.count(0), 15);
        due("the log alone can be", y.sync(), 15);

        for (int left = 0; left <= 4; left++) {
            StoreLog3 z = Scenes.closed(16, 14 - left);
            z.begin();
            for (int key = 2; key < 6; key++) {
                z.put(0, key, key);
            }
            z.commit(0);
            due("sectors left", 16 - z.count(4), left);
            due("a log and two pages with " + left + " left", z.checkpoint(), left < 3 ? FULL : 2);
            due("waiting", z.count(2), left < 3 ? 15 - left : 18 - left);
            due("entries", z.count(3), left < 3 ? 1 : 0);
        }
    }

    private static void cutWaited() {
        about(10, "A CUT: how many writes waited.");
        for (int logs = 0; logs < 4; logs++) {
            for (int keep = 0; keep <= logs; keep++) {
                StoreLog3 x = Scenes.waiting(16, logs, 3);
                due("cut with " + logs, x.cut(keep, 0), logs);
                due("down", x.count(2), DOWN);
                for (int sector = 1; sector <= 4; sector++) {
                    due("sector " + sector + " of " + keep, x.sound(sector), sector <= keep);
                }
            }
        }
        due("as many as can wait", Scenes.full(64, 0).cut(63, 32), 63);
    }

    private static void cutRefused() {
        about(10, "NONE: keep is not 0 .. how many wait, or tear not 0 .. 32.");
        StoreLog3 x = Scenes.waiting(16, 3, 2);
        int[][] wrong = {{-1, 0}, {-1, 32}, {4, 0}, {4, 32}, {0, -1}, {3, -1}, {0, 33}, {3, 33}, {LEAST, 0}, {MOST, 0},
            {0, LEAST}, {0, MOST}, {MOST, MOST}, {LEAST, LEAST}};
        for (int[] row : wrong) {
            due("cut(" + row[0] + ", " + row[1] + ")", x.cut(row[0], row[1]), NONE);
        }
        due("it runs, all wait", x.count(2), 3);
        due("entries stay", x.count(3), 2);
        due("nothing is put there", x.at(1, 0), 0);
        due("none waits, keep 1", new StoreLog3(16).cut(1, 0), NONE);
        int[][] right = {{0, 0}, {0, 32}, {3, 0}, {3, 32}};
        for (int[] row : right) {
            due("cut(" + row[0] + ", " + row[1] + ")", Scenes.waiting(16, 3, 2).cut(row[0], row[1]), 3);
        }
    }

    private static void cutWithoutNext() {
        about(10, "(Without a next write nothing is torn.)");
        for (int logs = 0; logs < 4; logs++) {
            for (int tear = 0; tear <= 32; tear += 16) {
                StoreLog3 x = Scenes.waiting(16, logs, 3);
                x.poke(logs + 1, 0, 9);
                x.poke(logs + 1, 31, 9);
                due("cut that keeps all", x.cut(logs, tear), logs);
                due("all are there", x.sound(logs), true);
                due("first byte behind", x.at(logs + 1, 0), 9);
                due("last byte behind", x.at(logs + 1, 31), 9);
                due("byte between", x.at(logs + 1, 5), 0);
            }
        }
        StoreLog3 round = Scenes.full(16, 3);
        round.cut(15, 32);
        due("nor sector 0 behind the last", round.sound(0), true);
    }

    private static void startUndone() {
        about(11, "A START: how many transactions were undone.");
        for (int open = 0; open <= 3; open++) {
            StoreLog3 x = Scenes.open(16, 3);
            for (int transaction = 0; transaction < 3; transaction++) {
                x.put(transaction, transaction, 1);
            }
            for (int transaction = open; transaction < 3; transaction++) {
                x.commit(transaction);
            }
            x.sync();
            x.cut(0, 0);
            due("start with " + open, x.start(), open);
            due("none is open", x.count(5), 0);
            due("entries", x.count(3), open);
            for (int key = 0; key < 3; key++) {
                due("key " + key, x.get(key), key < open ? NONE : 1);
                due("holder " + key, x.holder(key), NONE);
            }
        }
        StoreLog3 y = Scenes.open(16, 3);
        y.sync();
        y.cut(0, 0);
        due("those without an entry are not known", y.start(), 0);
    }

    private static void startRunning() {
        about(11, "NONE: it is not down");
        StoreLog3 x = new StoreLog3(16);
        due("new", x.start(), NONE);
        x.cut(0, 0);
        due("down", x.start(), 0);
        due("started", x.start(), NONE);
        x.format();
        due("formatted", x.start(), NONE);
    }

    private static void startBroken() {
        about(11, "BROKEN: no checkpoint is there (it stays down).");
        for (int i = 0; i < 32; i++) {
            StoreLog3 x = new StoreLog3(16);
            x.poke(0, i, 1);
            due("it runs on", x.begin(), 0);
            x.cut(0, 0);
            due("broken at " + i, x.start(), BROKEN);
            due("broken again", x.start(), BROKEN);
            due("down", x.begin(), DOWN);
            due("down too", x.count(0), DOWN);
            x.poke(0, i, 1);
            due("mended", x.start(), 0);
            due("runs", x.begin(), 0);
        }
        StoreLog3 once = new StoreLog3(16);
        once.cut(0, 0);
        due("whole at first", once.start(), 0);
        once.poke(0, 9, 9);
        once.cut(0, 0);
        due("broken later", once.start(), BROKEN);
        StoreLog3 logs = Scenes.waiting(16, 5, 0);
        logs.sync();
        logs.poke(0, 31, 128);
        logs.cut(0, 0);
        due("logs alone", logs.start(), BROKEN);
    }

    private static void at() {
        about(12, "Byte i (0 .. 31) of a sector on the disk, 0 .. 255");
        StoreLog3 x = new StoreLog3(16);
        int[] image = Images.page(0, 1, 0, 1);
        for (int i = 0; i < 32; i++) {
            due("at(0, " + i + ")", x.at(0, i), image[i]);
        }
        due("last of all", x.at(15, 31), 0);
        x.poke(15, 31, 255);
        due("255", x.at(15, 31), 255);
        x.poke(15, 31, 127);
        due("128", x.at(15, 31), 128);
    }

    private static void atNone() {
        about(12, "NONE: none such.");
        int[][] wrong = {{-1, 0}, {16, 0}, {16, 31}, {0, -1}, {0, 32}, {15, 32}, {1, -1}, {-1, 32}, {LEAST, 0}, {MOST, 0},
            {0, LEAST}, {0, MOST}, {MOST, MOST}, {LEAST, LEAST}, {134217728, 0}, {-134217728, 0}, {1, -32}, {64, 0}};
        StoreLog3 x = new StoreLog3(16);
        for (int[] row : wrong) {
            due("at(" + row[0] + ", " + row[1] + ")", x.at(row[0], row[1]), NONE);
        }
        due("63 of 64", new StoreLog3(64).at(63, 0), 0);
        due("64 of 64", new StoreLog3(64).at(64, 0), NONE);
    }

    private static void sound() {
        about(13, "Whether a sector on the disk is sound.");
        StoreLog3 x = new StoreLog3(64);
        for (int i = 0; i < 32; i++) {
            x.poke(0, i, 1 << i % 8);
            due("changed at " + i, x.sound(0), false);
            x.poke(0, i, 1 << i % 8);
            due("as before", x.sound(0), true);
        }
        for (int sector = 1; sector < 64; sector++) {
            due("zeros", x.sound(sector), false);
        }
        Images.lay(x, 63, Images.sealed(63, new int[32]));
        due("one that tells nothing", x.sound(63), true);
        Images.lay(x, 62, Images.sealed(63, new int[32]));
        due("with another sector's sum", x.sound(62), false);
    }

    private static void soundNone() {
        about(13, "False also: none such.");
        int[] wrong = {LEAST, -2, -1, 16, 17, 64, MOST, 134217728, -134217728};
        StoreLog3 x = new StoreLog3(16);
        for (int sector : wrong) {
            due("sound(" + sector + ")", x.sound(sector), false);
        }
        due("last", Scenes.full(16, 0).sound(15), false);
        StoreLog3 full = Scenes.full(16, 0);
        full.sync();
        due("last when written", full.sound(15), true);
        due("behind the last", full.sound(16), false);
    }

    private static void poke() {
        about(14, "A byte of a sector on the disk is changed where mask (1 .. 255) has bits.");
        StoreLog3 x = new StoreLog3(16);
        int byteThere = 0;
        for (int mask = 1; mask <= 255; mask += 127) {
            byteThere ^= mask;
            due("poke by " + mask, x.poke(15, 31, mask), true);
            due("changed by " + mask, x.at(15, 31), byteThere);
        }
        due("first of all", x.poke(0, 0, 1), true);
        due("a bit that comes", x.at(0, 0), 3);
        due("again", x.poke(0, 0, 3), true);
        due("bits that go", x.at(0, 0), 0);
        due("no other byte", x.at(0, 1) + x.at(15, 30), 0);
        StoreLog3 waits = Scenes.waiting(16, 1, 0);
        waits.poke(1, 0, 255);
        waits.sync();
        due("what waits is not changed", waits.at(1, 0), 1);
    }

    private static void pokeNone() {
        about(14, "False: none such.");
        StoreLog3 x = new StoreLog3(16);
        int[] masks = {LEAST, -256, -255, -1, 0, 256, 257, 511, MOST};
        for (int mask : masks) {
            due("mask " + mask, x.poke(3, 3, mask), false);
        }
        due("nothing is changed", x.at(3, 3), 0);
        int[][] wrong = {{-1, 0}, {16, 0}, {0, -1}, {0, 32}, {15, 32}, {1, -1}, {LEAST, 0}, {MOST, 0}, {0, LEAST},
            {0, MOST}, {134217728, 0}, {1, -32}};
        for (int[] row : wrong) {
            due("poke(" + row[0] + ", " + row[1] + ", 1)", x.poke(row[0], row[1], 1), false);
        }
        due("no byte near it", x.at(0, 31) - 251 + x.at(1, 0) + x.at(15, 31), 0);
        due("nor the first", x.at(0, 0), 2);
    }

    private static void counts() {
        about(15, "0 the serial written last, 1 in which sector, 2 writes that wait, 3 entries that have come together, "
                + "4 sectors needed, 5 open transactions, as bits, 6 commits since it runs.");
        StoreLog3 x = Scenes.open(16, 3);
        x.commit(1);
        for (int n = 0; n < 9; n++) {
            x.put(2, n, n);
        }
        dueCounts(x, 3, 2, 2, 2, 3, 5, 1);
        x.sync();
        dueCounts(x, 4, 3, 0, 0, 4, 5, 1);
        x.undo(0);
        x.commit(2);
        dueCounts(x, 4, 3, 0, 2, 4, 0, 2);
        x.checkpoint();
        dueCounts(x, 7, 6, 3, 0, 7, 0, 2);
        x.sync();
        dueCounts(x, 7, 6, 0, 0, 2, 0, 2);
        x.cut(0, 0);
        x.start();
        dueCounts(x, 7, 6, 0, 0, 2, 0, 0);
        StoreLog3 full = Scenes.full(64, 3);
        dueCounts(full, 64, 63, 63, 3, 64, 1, 0);
    }

    private static void dueCounts(StoreLog3 x, int... want) {
        for (int which = 0; which < want.length; which++) {
            due("count(" + which + ")", x.count(which), want[which]);
        }
    }

    private static void countNone() {
        about(15, "NONE: another number.");
        int[] wrong = {LEAST, -2, -1, 7, 8, 32, MOST};
        StoreLog3 x = new StoreLog3(16);
        for (int which : wrong) {
            due("count(" + which + ")", x.count(which), NONE);
        }
        due("least", x.count(0), 1);
        due("greatest", x.count(6), 0);
    }

    private static void holder() {
        about(16, "Who holds a key");
        StoreLog3 x = Scenes.open(16, 3);
        x.put(2, 0, 1);
        x.put(1, 31, NONE);
        x.put(0, 5, 1);
        due("key 0", x.holder(0), 2);
        due("key 31, that goes", x.holder(31), 1);
        due("key 5", x.holder(5), 0);
    }

    private static void holderNone() {
        about(16, "NONE: nobody, no such key.");
        StoreLog3 x = Scenes.open(16, 3);
        due("nobody", x.holder(1), NONE);
        for (int key : Scenes.NO_KEYS) {
            due("key " + key, x.holder(key), NONE);
        }
        x.put(0, 0, 0);
        x.put(1, 31, 0);
        x.undo(0);
        x.commit(1);
        due("undone", x.holder(0), NONE);
        due("committed", x.holder(31), NONE);
    }

    private static void formatAll() {
        about(17, "All as at first, the disk too; running.");
        for (int state = 0; state < 6; state++) {
            for (int from = 0; from < 16; from += 8) {
                StoreLog3 x = used(state);
                x.format();
                dueFirstBytes(x, from);
            }
            StoreLog3 y = used(state);
            y.format();
            dueFirstState(y);
            StoreLog3 z = used(state);
            z.format();
            z.cut(0, 0);
            due("start from the first page", z.start(), 0);
            dueFirstState(z);
        }
    }

    private static StoreLog3 used(int state) {
        switch (state) {
            case 0: return new StoreLog3(16);
            case 1: return Scenes.full(16, 3);
            case 2: return checkpointWaiting();
            case 3: return checkpointSynced();
            case 4: return Scenes.down(16);
            default: return broken();
        }
    }

    private static StoreLog3 checkpointWaiting() {
        StoreLog3 x = Scenes.withKeys(16, 7);
        x.sync();
        x.checkpoint();
        x.begin();
        x.put(0, 5, 5);
        return x;
    }

    private static StoreLog3 checkpointSynced() {
        StoreLog3 x = checkpointWaiting();
        x.sync();
        x.poke(15, 9, 9);
        return x;
    }

    private static StoreLog3 broken() {
        StoreLog3 x = Scenes.waiting(16, 2, 0);
        x.sync();
        x.poke(0, 9, 9);
        x.cut(0, 0);
        x.start();
        return x;
    }

    private static void formatCommits() {
        about(17, "How many commits there were since it ran (0 when it was down).");
        for (int commits = 0; commits < 3; commits++) {
            StoreLog3 x = new StoreLog3(16);
            for (int n = 0; n < commits; n++) {
                Scenes.commitOne(x, n, n);
            }
            x.begin();
            x.undo(0);
            due("commits", x.format(), commits);
            due("none since", x.format(), 0);
        }
        StoreLog3 y = new StoreLog3(16);
        Scenes.commitOne(y, 1, 1);
        y.sync();
        y.cut(0, 0);
        due("while down", y.format(), 0);
        Scenes.commitOne(y, 1, 1);
        y.sync();
        y.cut(0, 0);
        y.start();
        due("none since the start", y.format(), 0);
        StoreLog3 z = Scenes.down(16);
        z.start();
        Scenes.commitOne(z, 1, 1);
        due("one since the start", z.format(), 1);
    }

    private static void manyCalls() {
        about(15, "An object is used for at most 512 calls after it has been made");
        StoreLog3 x = new StoreLog3(16);
        for (int n = 1; n <= 127; n++) {
            x.begin();
            x.commit(0);
            x.checkpoint();
            due("writes", x.sync(), 2);
        }
        due("begin", x.begin(), 0);
        due("commit", x.commit(0), 0);
        due("commits", x.count(6), 128);
        due("the last call", x.count(0), 255);
    }
}
