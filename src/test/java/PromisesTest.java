/** Each promise: ordinary inputs, the edges that the document names, wrong inputs. */
public final class PromisesTest {
    private static final int NONE = -1, FULL = -2, DOWN = -3, BROKEN = -4;
    private static final int LEAST = Integer.MIN_VALUE, MOST = Integer.MAX_VALUE;
    private static final Checks checks = new Checks();

    public static void main(String[] args) {
        newObject();
        begin();
        put();
        putRefusals();
        commit();
        undo();
        get();
        seen();
        sync();
        syncFull();
        checkpoint();
        checkpointFull();
        cut();
        tear();
        start();
        at();
        sound();
        poke();
        count();
        holder();
        format();
        whileDown();
        bytesOfLog();
        bytesOfPages();
        goingRound();
        checks.finish();
    }

    private static void due(String what, long got, long want) {
        checks.due(what, got, want);
    }

    private static void due(String what, boolean got, boolean want) {
        checks.due(what, got, want);
    }

    /** A store with transaction 0 open and all but one sector needed, three entries together. */
    private static StoreLog3 nearlyFull() {
        StoreLog3 x = new StoreLog3(16);
        x.begin();
        for (int n = 0; n < 59; n++) {
            due("nearlyFull put", x.put(0, n % 5, n), 1);
        }
        due("nearlyFull needed", x.count(4), 15);
        due("nearlyFull entries", x.count(3), 3);
        return x;
    }

    private static StoreLog3 full() {
        StoreLog3 x = nearlyFull();
        for (int n = 0; n < 4; n++) {
            due("full put", x.put(0, 0, 100 + n), 1);
        }
        due("full needed", x.count(4), 16);
        due("full entries", x.count(3), 3);
        return x;
    }

    private static void commitOne(StoreLog3 x, int key, int value) {
        int transaction = x.begin();
        due("commitOne put", x.put(transaction, key, value), 1);
        due("commitOne commit", x.commit(transaction), 1);
    }

    private static void dueImage(StoreLog3 x, String what, int sector, int[] image) {
        for (int i = 0; i < 32; i++) {
            due(what + " byte " + i, x.at(sector, i), image[i]);
        }
    }

    private static void sectorsOf(int wished, int got) {
        StoreLog3 x = new StoreLog3(wished);
        due("last sector of " + wished, x.at(got - 1, 0), got == 1 ? 2 : 0);
        due("sector behind the last of " + wished, x.at(got, 0), NONE);
    }

    private static void newObject() {
        sectorsOf(LEAST, 16);
        sectorsOf(-1, 16);
        sectorsOf(0, 16);
        sectorsOf(15, 16);
        sectorsOf(16, 16);
        sectorsOf(17, 17);
        sectorsOf(40, 40);
        sectorsOf(63, 63);
        sectorsOf(64, 64);
        sectorsOf(65, 64);
        sectorsOf(MOST, 64);
        dueFirst("new", new StoreLog3(16));
    }

    private static void dueFirst(String what, StoreLog3 x) {
        int[] counts = {1, 0, 0, 0, 1, 0, 0};
        for (int which = 0; which < counts.length; which++) {
            due(what + " count " + which, x.count(which), counts[which]);
        }
        dueImage(x, what, 0, Images.page(0, 1, 0, 1));
        for (int sector = 1; sector < 16; sector++) {
            due(what + " sound", x.sound(sector), false);
            for (int i = 0; i < 32; i += 7) {
                due(what + " at", x.at(sector, i), 0);
            }
        }
        for (int key = 0; key < 32; key++) {
            due(what + " get", x.get(key), NONE);
            due(what + " holder", x.holder(key), NONE);
        }
        due(what + " start", x.start(), NONE);
    }

    private static void begin() {
        StoreLog3 x = new StoreLog3(16);
        due("first begin", x.begin(), 0);
        due("second begin", x.begin(), 1);
        due("third begin", x.begin(), 2);
        due("fourth begin", x.begin(), NONE);
        due("open after a refused begin", x.count(5), 7);
        x.commit(1);
        due("open with a gap", x.count(5), 5);
        due("begin in the gap", x.begin(), 1);
        x.undo(0);
        x.undo(1);
        due("the least", x.begin(), 0);
        due("no entry of a begin", x.count(3), 3);
    }

    private static void put() {
        StoreLog3 x = new StoreLog3(16);
        x.begin();
        x.begin();
        due("put", x.put(0, 0, 0), 1);
        due("put again", x.put(0, 0, 1), 1);
        due("put the top value", x.put(1, 31, 16777215), 1);
        due("entries", x.count(3), 3);
        due("put what another holds", x.put(1, 0, 9), 0);
        due("take what another holds", x.put(0, 31, NONE), 0);
        due("no entry of those", x.count(3), 3);
        due("take what is not there", x.put(0, 7, NONE), 1);
        due("the fourth is written", x.count(3), 0);
        due("as one write", x.count(2), 1);
        due("holder of what went", x.holder(7), 0);
        due("not committed", x.get(0), NONE);
        due("seen", x.seen(0, 0), 1);
        x.commit(0);
        due("free again", x.put(1, 0, 5), 1);
    }

    private static void putRefusals() {
        StoreLog3 x = new StoreLog3(16);
        x.begin();
        x.put(0, 3, 3);
        int[] notOpen = {LEAST, -1, 1, 2, 3, 4, 32, 33, MOST};
        for (int transaction : notOpen) {
            due("put, not open " + transaction, x.put(transaction, 5, 1), NONE);
            due("put, not open, held key " + transaction, x.put(transaction, 3, 1), NONE);
        }
        int[] noKeys = {LEAST, -1, 32, 256, MOST};
        for (int key : noKeys) {
            due("put, no key " + key, x.put(0, key, 1), NONE);
            due("take, no key " + key, x.put(0, key, NONE), NONE);
        }
        int[] noValues = {LEAST, -4, -3, -2, 16777216, MOST};
        for (int value : noValues) {
            due("put, no value " + value, x.put(0, 5, value), NONE);
        }
        due("nothing came together", x.count(3), 1);
        due("nothing is held", x.holder(5), NONE);
        due("still open", x.count(5), 1);

        StoreLog3 full = full();
        due("put when full", full.put(0, 9, 1), FULL);
        due("no hold of a refused put", full.holder(9), NONE);
        due("no entry of a refused put", full.count(3), 3);
        due("refused put of a held key", full.put(0, 0, 5), FULL);
        due("value stays", full.seen(0, 0), 103);
        due("wrong put when full", full.put(0, 32, 5), NONE);
        full.begin();
        due("held key when full", full.put(1, 0, 5), 0);
        due("other's free key when full", full.put(1, 20, 5), FULL);
    }

    private static void commit() {
        StoreLog3 x = new StoreLog3(16);
        x.begin();
        x.begin();
        x.put(0, 1, 10);
        x.put(0, 1, 11);
        x.put(0, 2, 20);
        x.put(1, 3, 30);
        due("commit of two keys", x.commit(0), 2);
        due("committed", x.get(1), 11);
        due("committed too", x.get(2), 20);
        due("others are not", x.get(3), NONE);
        due("others are held", x.holder(3), 1);
        due("held no more", x.holder(1), NONE);
        due("open", x.count(5), 2);
        due("entry", x.count(3), 1);
        due("commit again", x.commit(0), NONE);
        due("commits", x.count(6), 1);
        x.put(1, 1, NONE);
        due("commit of one that takes", x.commit(1), 2);
        due("gone", x.get(1), NONE);
        x.begin();
        due("commit of nothing", x.commit(0), 0);
        due("an entry all the same", x.count(2), 2);
        due("counted too", x.count(6), 3);
        int[] wrong = {LEAST, -1, 0, 1, 2, 3, 32, MOST};
        for (int transaction : wrong) {
            due("commit, not open " + transaction, x.commit(transaction), NONE);
        }
        due("not counted", x.count(6), 3);

        StoreLog3 full = full();
        due("commit when full", full.commit(0), FULL);
        due("not counted when full", full.count(6), 0);
        due("open when full", full.count(5), 1);
        due("not committed when full", full.get(0), NONE);
        due("held when full", full.holder(0), 0);
        due("commit, not open when full", full.commit(1), NONE);
    }

    private static void undo() {
        StoreLog3 x = new StoreLog3(16);
        commitOne(x, 1, 5);
        x.begin();
        x.put(0, 1, 6);
        x.put(0, 2, 7);
        due("undo of two keys", x.undo(0), 2);
        due("entry", x.count(3), 1);
        due("as before", x.get(1), 5);
        due("none as before", x.get(2), NONE);
        due("held no more", x.holder(1), NONE);
        due("not open", x.count(5), 0);
        due("no commit", x.count(6), 1);
        due("undo again", x.undo(0), NONE);
        x.begin();
        due("undo of nothing", x.undo(0), 0);
        due("an entry all the same", x.count(3), 2);
        int[] wrong = {LEAST, -1, 0, 1, 2, 3, 32, MOST};
        for (int transaction : wrong) {
            due("undo, not open " + transaction, x.undo(transaction), NONE);
        }
        due("no entries of those", x.count(3), 2);

        StoreLog3 full = full();
        due("undo when full", full.undo(0), FULL);
        due("open when full", full.count(5), 1);
        due("held when full", full.holder(0), 0);
    }

    private static void get() {
        StoreLog3 x = new StoreLog3(16);
        commitOne(x, 0, 0);
        commitOne(x, 31, 16777215);
        due("get 0", x.get(0), 0);
        due("get 31", x.get(31), 16777215);
        due("get none", x.get(15), NONE);
        int[] wrong = {LEAST, -1, 32, MOST};
        for (int key : wrong) {
            due("get, no key " + key, x.get(key), NONE);
        }
        x.begin();
        x.put(0, 0, 8);
        due("get what is held", x.get(0), 0);
    }

    private static void seen() {
        StoreLog3 x = new StoreLog3(16);
        commitOne(x, 4, 40);
        commitOne(x, 5, 50);
        x.begin();
        x.begin();
        x.put(0, 4, 41);
        x.put(0, 5, NONE);
        due("own value", x.seen(0, 4), 41);
        due("own taking", x.seen(0, 5), NONE);
        due("other's value", x.seen(1, 4), 40);
        due("other's taking", x.seen(1, 5), 50);
        due("none", x.seen(0, 6), NONE);
        due("not open", x.seen(2, 4), NONE);
        int[] wrong = {LEAST, -1, 32, MOST};
        for (int n : wrong) {
            due("seen, no key " + n, x.seen(0, n), NONE);
            due("seen, no transaction " + n, x.seen(n, 4), NONE);
        }
        x.commit(0);
        due("seen by others when committed", x.seen(1, 4), 41);
        due("seen to be gone", x.seen(1, 5), NONE);
    }

    private static void sync() {
        StoreLog3 x = new StoreLog3(16);
        due("sync of nothing", x.sync(), 0);
        due("nothing is written", x.count(0), 1);
        x.begin();
        x.put(0, 1, 1);
        due("not on the disk yet", x.at(1, 0), 0);
        due("sync of one entry", x.sync(), 1);
        due("on the disk", x.at(1, 0), 1);
        due("one entry", x.at(1, 5), 1);
        due("nothing waits", x.count(2), 0);
        due("no entries", x.count(3), 0);
        for (int n = 0; n < 9; n++) {
            x.put(0, 1, n);
        }
        due("two wait", x.count(2), 2);
        due("these do not stand there", x.at(2, 0), 0);
        due("sync of all", x.sync(), 3);
        due("first", x.at(2, 5), 4);
        due("second", x.at(3, 5), 4);
        due("third", x.at(4, 5), 1);
        due("sync again", x.sync(), 0);
        due("serial", x.count(0), 5);
    }

    private static void syncFull() {
        StoreLog3 x = full();
        due("sync when full", x.sync(), FULL);
        due("all wait still", x.count(2), 15);
        due("entries stay", x.count(3), 3);
        due("nothing is put there", x.at(1, 0), 0);

        StoreLog3 y = nearlyFull();
        due("sync with one left", y.sync(), 15);
        due("needed then", y.count(4), 16);
        due("sync without entries when full", y.sync(), 0);
        due("three entries more", y.put(0, 0, 1) + y.put(0, 0, 2) + y.put(0, 0, 3), 3);
        due("the fourth not", y.put(0, 0, 4), FULL);
    }

    private static void checkpoint() {
        StoreLog3 x = new StoreLog3(16);
        due("checkpoint without keys", x.checkpoint(), 1);
        due("waits", x.count(2), 1);
        due("needed from the one on the disk", x.count(4), 2);
        due("not on the disk", x.at(1, 0), 0);
        x.begin();
        due("checkpoint with one open", x.checkpoint(), NONE);
        x.put(0, 1, 1);
        due("checkpoint with one that holds", x.checkpoint(), NONE);
        x.commit(0);
        due("checkpoint with entries", x.checkpoint(), 1);
        due("log and pages", x.count(2), 3);
        due("entries are gone", x.count(3), 0);
        due("needed", x.count(4), 4);
        due("sync", x.sync(), 3);
        due("only the last one is needed", x.count(4), 1);
        for (int key = 2; key < 6; key++) {
            commitOne(x, key, key);
        }
        due("five keys", x.checkpoint(), 1);
        commitOne(x, 6, 6);
        due("six keys", x.checkpoint(), 2);
        commitOne(x, 7, 7);
        due("sync of two checkpoints and more", x.sync(), 7);
        due("from the last checkpoint on", x.count(4), 3);
    }

    private static void checkpointFull() {
        StoreLog3 x = new StoreLog3(16);
        for (int key = 0; key < 24; key++) {
            commitOne(x, key, key);
        }
        due("needed", x.count(4), 13);
        due("five pages have no room", x.checkpoint(), FULL);
        due("nothing is written", x.count(2), 12);
        due("nor needed", x.count(4), 13);

        StoreLog3 y = new StoreLog3(16);
        for (int n = 0; n < 28; n++) {
            commitOne(y, n % 2, n);
        }
        due("14 logs", y.count(4), 15);
        y.begin();
        y.undo(0);
        due("a log and a page have no room", y.checkpoint(), FULL);
        due("the entry stays", y.count(3), 1);
        y.begin();
        due("NONE before FULL", y.checkpoint(), NONE);

        StoreLog3 z = new StoreLog3(16);
        for (int n = 0; n < 28; n++) {
            commitOne(z, n % 2, n);
        }
        due("the last sector is enough", z.checkpoint(), 1);
        due("all are needed", z.count(4), 16);
        due("no more room", z.checkpoint(), FULL);
        due("sync makes room", z.sync(), 15);
        due("one is needed", z.count(4), 1);
        due("room again", z.checkpoint(), 1);
    }

    private static StoreLog3 threeWait() {
        StoreLog3 x = new StoreLog3(16);
        x.begin();
        for (int n = 0; n < 14; n++) {
            x.put(0, n, 1000 + n);
        }
        due("three wait", x.count(2), 3);
        return x;
    }

    private static void cut() {
        StoreLog3 x = threeWait();
        int[][] wrong = {{-1, 0}, {4, 0}, {0, -1}, {0, 33}, {3, 33}, {LEAST, 0}, {MOST, 0}, {0, LEAST}, {0, MOST}};
        for (int[] row : wrong) {
            due("cut " + row[0] + " " + row[1], x.cut(row[0], row[1]), NONE);
        }
        due("it runs", x.count(2), 3);
        due("entries stay", x.count(3), 2);
        due("cut", x.cut(1, 0), 3);
        due("the first is kept", x.sound(1), true);
        due("the next is not", x.at(2, 0), 0);
        due("down", x.count(2), DOWN);
        due("start", x.start(), 1);
        due("memory is gone", x.count(2), 0);

        StoreLog3 y = threeWait();
        due("cut that keeps all", y.cut(3, 32), 3);
        due("third is there", y.sound(3), true);
        due("nothing is torn behind", y.at(4, 0), 0);

        StoreLog3 z = new StoreLog3(16);
        due("cut of nothing", z.cut(0, 32), 0);
        due("nothing is torn", z.at(1, 0), 0);
        due("start from the first page", z.start(), 0);
    }

    private static void tear() {
        for (int tear = 0; tear <= 32; tear++) {
            StoreLog3 x = threeWait();
            for (int i = 0; i < 32; i++) {
                x.poke(2, i, 170);
            }
            x.cut(1, tear);
            int[] second = Images.log(2, 3, Images.entry(0, 0, 4, 1004), Images.entry(0, 0, 5, 1005),
                    Images.entry(0, 0, 6, 1006), Images.entry(0, 0, 7, 1007));
            for (int i = 0; i < 32; i++) {
                due("torn at " + tear + " byte " + i, x.at(2, i), i < tear ? second[i] : 170);
            }
            due("sound when whole", x.sound(2), tear == 32);
            due("the one behind is not touched", x.at(3, 0), 0);
        }
    }

    private static void start() {
        StoreLog3 x = new StoreLog3(16);
        due("start while it runs", x.start(), NONE);
        commitOne(x, 1, 10);
        x.begin();
        x.begin();
        x.begin();
        x.put(0, 2, 20);
        x.put(2, 3, 30);
        x.sync();
        commitLater(x);
        due("cut", x.cut(0, 0), 0);
        due("two are undone", x.start(), 2);
        due("committed is there", x.get(1), 10);
        due("not committed is not", x.get(2), NONE);
        due("nor is the other", x.get(3), NONE);
        due("not synced is not", x.get(9), NONE);
        due("an entry for each", x.count(3), 2);
        due("none waits", x.count(2), 0);
        due("none is open", x.count(5), 0);
        due("nobody holds", x.holder(2), NONE);
        due("no commits", x.count(6), 0);
        due("serial", x.count(0), 2);
        due("sector", x.count(1), 1);
        due("needed", x.count(4), 2);
        due("entries are written", x.sync(), 1);
        dueImage(x, "undo entries", 2, Images.log(2, 3, Images.entry(0, 3, 0, 0), Images.entry(2, 3, 0, 0)));
        x.cut(0, 0);
        due("undone once", x.start(), 0);

        StoreLog3 broken = new StoreLog3(16);
        broken.poke(0, 3, 1);
        due("it runs on", broken.begin(), 0);
        broken.cut(0, 0);
        due("broken", broken.start(), BROKEN);
        due("broken again", broken.start(), BROKEN);
        due("stays down", broken.begin(), DOWN);
        broken.poke(0, 3, 1);
        due("mended", broken.start(), 0);
        due("runs", broken.begin(), 0);
    }

    private static void commitLater(StoreLog3 x) {
        x.put(1, 9, 9);
        x.commit(1);
    }

    private static void at() {
        StoreLog3 x = new StoreLog3(16);
        due("at", x.at(0, 0), 2);
        due("above 127", x.at(0, 28), 190);
        due("last", x.at(15, 31), 0);
        int[][] wrong = {{-1, 0}, {16, 0}, {0, -1}, {0, 32}, {1, -1}, {LEAST, 0}, {MOST, 0}, {0, LEAST}, {0, MOST},
            {MOST, MOST}, {134217728, 0}};
        for (int[] row : wrong) {
            due("at " + row[0] + " " + row[1], x.at(row[0], row[1]), NONE);
        }
        x.cut(0, 0);
        due("at while down", x.at(0, 0), 2);
        due("none such while down", x.at(16, 0), NONE);
    }

    private static void sound() {
        StoreLog3 x = new StoreLog3(64);
        due("sound", x.sound(0), true);
        for (int sector = 1; sector < 64; sector++) {
            due("zeros", x.sound(sector), false);
        }
        int[] wrong = {LEAST, -1, 64, MOST, 134217728};
        for (int sector : wrong) {
            due("none such " + sector, x.sound(sector), false);
        }
        for (int i = 0; i < 32; i++) {
            x.poke(0, i, 1 << i % 8);
            due("poked at " + i, x.sound(0), false);
            x.poke(0, i, 1 << i % 8);
        }
        due("as before", x.sound(0), true);
        Images.lay(x, 63, Images.sealed(63, new int[32]));
        due("sound without telling", x.sound(63), true);
        Images.lay(x, 62, Images.sealed(63, new int[32]));
        due("another sector's sum", x.sound(62), false);
        x.cut(0, 0);
        due("sound while down", x.sound(0), true);
    }

    private static void poke() {
        StoreLog3 x = new StoreLog3(16);
        int[] masks = {LEAST, -1, 0, 256, MOST};
        for (int mask : masks) {
            due("poke by " + mask, x.poke(3, 3, mask), false);
        }
        due("nothing changed", x.at(3, 3), 0);
        int[][] wrong = {{-1, 0}, {16, 0}, {0, -1}, {0, 32}, {LEAST, 0}, {MOST, 0}, {0, LEAST}, {0, MOST}, {134217728, 0}};
        for (int[] row : wrong) {
            due("poke " + row[0] + " " + row[1], x.poke(row[0], row[1], 1), false);
        }
        due("no other byte either", x.at(0, 31) * 1000 + x.at(1, 0), 251000);
        due("poke", x.poke(15, 31, 255), true);
        due("all bits", x.at(15, 31), 255);
        due("poke again", x.poke(15, 31, 129), true);
        due("bits go too", x.at(15, 31), 126);
        due("least mask", x.poke(0, 0, 1), true);
        due("changed", x.at(0, 0), 3);
        x.cut(0, 0);
        due("poke while down", x.poke(0, 0, 1), true);
        due("changed while down", x.at(0, 0), 2);
    }

    private static void count() {
        StoreLog3 x = new StoreLog3(16);
        x.begin();
        x.begin();
        x.commit(0);
        for (int n = 0; n < 9; n++) {
            x.put(1, n, n);
        }
        int[] counts = {3, 2, 2, 2, 3, 2, 1};
        for (int which = 0; which < counts.length; which++) {
            due("count " + which, x.count(which), counts[which]);
        }
        int[] wrong = {LEAST, -1, 7, 8, MOST};
        for (int which : wrong) {
            due("count " + which, x.count(which), NONE);
        }
    }

    private static void holder() {
        StoreLog3 x = new StoreLog3(16);
        x.begin();
        x.begin();
        x.begin();
        x.put(2, 0, 1);
        x.put(1, 31, NONE);
        due("holder", x.holder(0), 2);
        due("holder of one that goes", x.holder(31), 1);
        due("nobody", x.holder(1), NONE);
        int[] wrong = {LEAST, -1, 32, MOST};
        for (int key : wrong) {
            due("no key " + key, x.holder(key), NONE);
        }
        x.undo(2);
        due("nobody after undo", x.holder(0), NONE);
        x.commit(1);
        due("nobody after commit", x.holder(31), NONE);
    }

    private static void format() {
        StoreLog3 x = new StoreLog3(16);
        due("no commits", x.format(), 0);
        commitOne(x, 1, 1);
        commitOne(x, 2, 2);
        x.checkpoint();
        x.sync();
        x.begin();
        x.put(0, 5, 5);
        x.poke(9, 9, 9);
        due("two commits", x.format(), 2);
        dueFirst("formatted", x);
        due("none of these", x.format(), 0);

        StoreLog3 y = new StoreLog3(16);
        commitOne(y, 1, 1);
        y.sync();
        y.cut(0, 0);
        due("format while down", y.format(), 0);
        dueFirst("formatted while down", y);
        commitOne(y, 1, 1);
        y.sync();
        y.cut(0, 0);
        y.start();
        due("those before the cut do not count", y.format(), 0);

        StoreLog3 z = new StoreLog3(16);
        commitOne(z, 1, 1);
        z.checkpoint();
        z.format();
        due("nothing waits after a format", z.sync(), 0);
        due("needed after a format", z.count(4), 1);
    }

    private static void whileDown() {
        StoreLog3 x = new StoreLog3(16);
        commitOne(x, 1, 1);
        x.cut(0, 0);
        due("begin", x.begin(), DOWN);
        for (int n = -1; n < 34; n += 5) {
            due("put", x.put(n, n, n), DOWN);
            due("commit", x.commit(n), DOWN);
            due("undo", x.undo(n), DOWN);
            due("get", x.get(n), DOWN);
            due("seen", x.seen(n, n), DOWN);
            due("cut", x.cut(n, n), DOWN);
            due("count", x.count(n), DOWN);
            due("holder", x.holder(n), DOWN);
        }
        due("sync", x.sync(), DOWN);
        due("checkpoint", x.checkpoint(), DOWN);
    }

    private static void bytesOfLog() {
        StoreLog3 x = new StoreLog3(16);
        x.begin();
        x.begin();
        x.begin();
        x.put(2, 31, 16777215);
        x.put(1, 30, NONE);
        x.put(0, 29, 66051);
        x.commit(2);
        x.undo(1);
        x.sync();
        dueImage(x, "log of four", 1, Images.log(1, 2, Images.entry(2, 0, 31, 16777215), Images.entry(1, 1, 30, 0),
                Images.entry(0, 0, 29, 66051), Images.entry(2, 2, 0, 0)));
        dueImage(x, "log of one", 2, Images.log(2, 3, Images.entry(1, 3, 0, 0)));
    }

    private static void bytesOfPages() {
        StoreLog3 x = new StoreLog3(32);
        int[] keys = {31, 0, 9, 4, 22, 17};
        for (int key : keys) {
            commitOne(x, key, 70000 * key);
        }
        due("two pages", x.checkpoint(), 2);
        x.sync();
        dueImage(x, "full page", 4, Images.page(4, 5, 0, 2, Images.pair(0, 0), Images.pair(4, 280000),
                Images.pair(9, 630000), Images.pair(17, 1190000), Images.pair(22, 1540000)));
        dueImage(x, "last page", 5, Images.page(5, 6, 1, 2, Images.pair(31, 2170000)));
        for (int key : keys) {
            commitOne(x, key, NONE);
        }
        due("one page without keys", x.checkpoint(), 1);
        x.sync();
        dueImage(x, "page without keys", 9, Images.page(9, 10, 0, 1));
    }

    private static void goingRound() {
        StoreLog3 x = new StoreLog3(17);
        for (int n = 0; n < 20; n++) {
            commitOne(x, n, n);
            due("pages", x.checkpoint(), n / 5 + 1);
            due("writes", x.sync(), n / 5 + 2);
            due("needed", x.count(4), n / 5 + 1);
        }
        due("serial", x.count(0), 71);
        due("sector", x.count(1), 70 % 17);
        x.cut(0, 0);
        due("start", x.start(), 0);
        due("serial again", x.count(0), 71);
        due("sector again", x.count(1), 70 % 17);
        due("needed again", x.count(4), 4);
        for (int n = 0; n < 20; n++) {
            due("get", x.get(n), n);
        }
        commitOne(x, 31, 31);
        x.sync();
        dueImage(x, "behind the run", 71 % 17, Images.log(71 % 17, 72, Images.entry(0, 0, 31, 31), Images.entry(0, 2, 0, 0)));
    }
}
