import java.util.Arrays;

/** What the terms say of the dictionary and the disk, sentence by sentence, as the promises show it. */
public final class DiskTest {
    private static final int NONE = Scenes.NONE, FULL = Scenes.FULL;
    private static final Checks checks = new Checks();

    public static void main(String[] args) {
        values();
        transactions();
        holds();
        sectors();
        highestByteFirst();
        sum();
        sumByBits();
        kindAndSerial();
        logBytes();
        nothingWhereThereIsNone();
        pageBytes();
        othersAreZero();
        goingRound();
        serialsGoOverTheTop();
        fourEntries();
        waiting();
        pagesOfCheckpoint();
        neededFromWhole();
        neededUpToLatest();
        noNeededIsWritten();
        atFirst();
        checks.finish();
    }

    private static void due(String what, long got, long want) {
        checks.due(what, got, want);
    }

    private static void due(String what, boolean got, boolean want) {
        checks.due(what, got, want);
    }

    private static void dueImage(StoreLog3 x, String what, int sector, int[] image) {
        for (int i = 0; i < 32; i++) {
            due(what + ", byte " + i, x.at(sector, i), image[i]);
        }
    }

    private static void values() {
        checks.about(3, "31, each with a VALUE 0 .. 16777215 or none (NONE).");
        StoreLog3 x = Scenes.open(64, 1);
        for (int key = 0; key < 32; key++) {
            due("key " + key, x.put(0, key, key % 2 == 0 ? 0 : 16777215), 1);
        }
        x.commit(0);
        x.checkpoint();
        x.sync();
        x.cut(0, 0);
        x.start();
        for (int key = 0; key < 32; key++) {
            due("value of " + key, x.get(key), key % 2 == 0 ? 0 : 16777215);
        }
    }

    private static void transactions() {
        checks.about(2, "TRANSACTIONS 0 .. 2 are open or not.");
        StoreLog3 x = Scenes.open(16, 3);
        for (int transaction = 0; transaction < 3; transaction++) {
            due("put by " + transaction, x.put(transaction, transaction, 1), 1);
        }
        due("put by 3", x.put(3, 3, 1), NONE);
        for (int transaction = 0; transaction < 3; transaction++) {
            due("commit of " + transaction, x.commit(transaction), 1);
            due("bits", x.count(5), 6 << transaction & 7);
        }
    }

    private static void holds() {
        checks.about(16, "An open one that changes a key HOLDS it until it ends; "
                + "what it changed is seen by others when it is committed.");
        StoreLog3 x = Scenes.open(16, 2);
        x.seen(0, 7);
        due("looking at it is not holding", x.holder(7), NONE);
        x.put(0, 7, 1);
        x.put(0, 7, NONE);
        due("held", x.holder(7), 0);
        x.sync();
        due("held over a sync", x.holder(7), 0);
        x.put(0, 7, 70);
        due("not seen", x.seen(1, 7), NONE);
        due("not there", x.get(7), NONE);
        x.commit(0);
        due("held until it ends", x.holder(7), NONE);
        due("seen", x.seen(1, 7), 70);
        due("there", x.get(7), 70);
        x.put(1, 7, 71);
        x.undo(1);
        due("held until it is undone", x.holder(7), NONE);
        due("undone is never seen", x.get(7), 70);
    }

    private static void sectors() {
        checks.about(12, "THE DISK has N SECTORS of 32 bytes, numbered from 0.");
        for (int n = 16; n <= 64; n++) {
            StoreLog3 x = new StoreLog3(n);
            due("first of " + n, x.at(0, 0), 2);
            due("last byte of the last of " + n, x.poke(n - 1, 31, 1), true);
            due("it alone", x.at(n - 1, 31) + x.at(n - 1, 30) + x.at(n - 2, 31), 1);
            due("byte 32 of " + n, x.at(n - 1, 32), NONE);
            due("behind the last of " + n, x.at(n, 0), NONE);
            due("before the first of " + n, x.at(-1, 31), NONE);
        }
    }

    private static void highestByteFirst() {
        checks.about(12, "Numbers of several bytes have the highest byte first.");
        StoreLog3 x = Scenes.down(16);
        Images.lay(x, 0, Images.page(0, 0x01020303L, 0, 1));
        x.start();
        x.begin();
        x.put(0, 0, 0x0A0B0C);
        x.sync();
        for (int i = 0; i < 4; i++) {
            due("serial, byte " + i, x.at(1, 1 + i), 1 + i);
        }
        for (int i = 0; i < 3; i++) {
            due("value, byte " + i, x.at(1, 8 + i), 10 + i);
        }
        x.commit(0);
        x.checkpoint();
        x.sync();
        for (int i = 0; i < 3; i++) {
            due("value in a page, byte " + i, x.at(3, 7 + i), 10 + i);
        }
        dueImage(x, "sum", 3, Images.page(3, 0x01020306L, 0, 1, Images.pair(0, 0x0A0B0C)));
    }

    private static void sum() {
        checks.about(13, "A sector is SOUND when its bytes 28 .. 31 are the SUM of its bytes 0 .. 27");
        StoreLog3 x = Scenes.full(64, 0);
        x.sync();
        for (int sector = 0; sector < 64; sector++) {
            due("sector " + sector, x.sound(sector), true);
        }
        for (int sector = 0; sector < 64; sector += 9) {
            int[] image = new int[32];
            for (int i = 0; i < 28; i++) {
                image[i] = 255 - 8 * i;
            }
            StoreLog3 y = new StoreLog3(64);
            Images.lay(y, sector, Images.sealed(sector, image));
            due("any bytes in " + sector, y.sound(sector), true);
            for (int i = 0; i < 32; i++) {
                y.poke(sector, i, 128 >> i % 8);
                due("byte " + i + " changed", y.sound(sector), false);
                y.poke(sector, i, 128 >> i % 8);
            }
            StoreLog3 z = new StoreLog3(64);
            Images.lay(z, sector, Images.sealed((sector + 1) % 64, image));
            due("the sum of another sector", z.sound(sector), false);
        }
    }

    private static void sumByBits() {
        checks.about(13, "s is the sector's number and 1 more at first; for each byte b it becomes (s ^ b), turned up by "
                + "11 bits (those that leave it at the top come in below), times 2246822519 (all in 32 bits).");
        int[] first = {190, 205, 110, 251};
        StoreLog3 x = new StoreLog3(16);
        for (int i = 0; i < 4; i++) {
            due("sector 0 at first, byte " + (28 + i), x.at(0, 28 + i), first[i]);
        }
        int[] sectors = {0, 1, 31, 62, 63};
        for (int sector : sectors) {
            for (int b = 0; b < 256; b += 51) {
                StoreLog3 y = new StoreLog3(64);
                long s = sector + 1;
                for (int i = 0; i < 28; i++) {
                    int due = (b + 37 * i) % 256;
                    int old = sector == 0 ? y.at(0, i) : 0;
                    y.poke(sector, i, old ^ due);
                    s = turnedByBits(s ^ due) * 2246822519L & 4294967295L;
                }
                for (int i = 28; i < 32; i++) {
                    due("not yet", y.sound(sector), false);
                    int old = sector == 0 ? first[i - 28] : 0;
                    y.poke(sector, i, old ^ (int) (s >> 8 * (31 - i) & 255));
                }
                due("the sum in sector " + sector, y.sound(sector), true);
            }
        }
    }

    private static long turnedByBits(long number) {
        long turned = number;
        for (int n = 0; n < 11; n++) {
            long top = turned >> 31 & 1;
            turned = (turned << 1 & 4294967295L) + top;
        }
        return turned;
    }

    private static void kindAndSerial() {
        checks.about(8, "A SECTOR THAT TELLS something: byte 0 is 1 for a LOG, 2 for a PAGE; bytes 1 .. 4 its SERIAL.");
        StoreLog3 x = new StoreLog3(16);
        Scenes.commitOne(x, 1, 1);
        due("pages", x.checkpoint(), 1);
        due("log and page", x.sync(), 2);
        int[] kinds = {2, 1, 2, 0};
        int[] serials = {1, 2, 3, 0};
        for (int sector = 0; sector < 4; sector++) {
            due("kind of sector " + sector, x.at(sector, 0), kinds[sector]);
            due("its serial's high bytes", x.at(sector, 1) + x.at(sector, 2) + x.at(sector, 3), 0);
            due("its serial", x.at(sector, 4), serials[sector]);
        }
    }

    private static void logBytes() {
        checks.about(8, "LOG: byte 5 how many ENTRIES it has, 1 .. 4, which stand from byte 6 on, five bytes each: "
                + "4 times the transaction and what it does (0 a value is put, 1 it goes, 2 commit, 3 undo), "
                + "the key, the value in three bytes");
        int[][] entries = {Images.entry(2, Images.PUT, 31, 16777215), Images.entry(1, Images.GOES, 30, 0),
            Images.entry(0, Images.COMMIT, 0, 0), Images.entry(2, Images.UNDO, 0, 0)};
        for (int n = 1; n <= 4; n++) {
            StoreLog3 x = Scenes.open(16, 3);
            x.put(2, 31, 16777215);
            if (n > 1) {
                x.put(1, 30, NONE);
            }
            if (n > 2) {
                x.commit(0);
            }
            if (n > 3) {
                x.undo(2);
            }
            x.sync();
            dueImage(x, "log of " + n, 1, Images.log(1, 2, Arrays.copyOf(entries, n)));
        }
    }

    private static void nothingWhereThereIsNone() {
        checks.about(8, "(key and value 0 where there is none)");
        StoreLog3 x = new StoreLog3(16);
        Scenes.commitOne(x, 9, 999999);
        x.begin();
        x.put(0, 9, NONE);
        x.undo(0);
        x.sync();
        dueImage(x, "log", 1, Images.log(1, 2, Images.entry(0, Images.PUT, 9, 999999),
                Images.entry(0, Images.COMMIT, 0, 0), Images.entry(0, Images.GOES, 9, 0), Images.entry(0, Images.UNDO, 0, 0)));
    }

    private static void pageBytes() {
        checks.about(9, "PAGE: byte 5 how many keys it has, 0 .. 5; from byte 6 on for each of these four bytes: the key, "
                + "its value in three; byte 26 which page it is, from 0 on, byte 27 how many pages there are.");
        for (int keys = 0; keys <= 32; keys++) {
            StoreLog3 x = Scenes.withKeys(32, keys);
            int pages = x.checkpoint();
            x.sync();
            int serial = x.count(0) - pages + 1;
            for (int page = 0; page < pages; page++) {
                int[][] pairs = new int[Math.min(5, keys - 5 * page)][];
                for (int n = 0; n < pairs.length; n++) {
                    pairs[n] = Images.pair(5 * page + n, 70000 * (5 * page + n));
                }
                int sector = serial + page - 1;
                dueImage(x, "page " + page + " of " + pages, sector, Images.page(sector, serial + page, page, pages, pairs));
            }
        }
    }

    private static void othersAreZero() {
        checks.about(8, "All others are 0.");
        StoreLog3 x = Scenes.open(16, 1);
        // Full sectors all over the disk and the memory, so that a short one could keep bytes of theirs.
        for (int n = 0; n < 60; n++) {
            x.put(0, n % 30, 16777215 - n);
        }
        x.commit(0);
        x.cut(15, 0);
        x.start();
        x.format();
        for (int sector = 1; sector < 16; sector++) {
            for (int i = 0; i < 28; i += 3) {
                x.poke(sector, i, 255);
            }
        }
        Scenes.commitOne(x, 1, 1);
        x.sync();
        dueImage(x, "short log", 1, Images.log(1, 2, Images.entry(0, Images.PUT, 1, 1), Images.entry(0, Images.COMMIT, 0, 0)));
        x.checkpoint();
        x.sync();
        dueImage(x, "short page", 2, Images.page(2, 3, 0, 1, Images.pair(1, 1)));
    }

    private static void goingRound() {
        checks.about(15, "Sectors are WRITTEN one behind the other, round (sector 0 behind the last one), "
                + "with serials rising by 1");
        int[] sizes = {16, 17, 63, 64};
        for (int size : sizes) {
            StoreLog3 x = new StoreLog3(size);
            int written = 0;
            while (written < size + 8) {
                x.checkpoint();
                x.checkpoint();
                x.checkpoint();
                x.sync();
                written += 3;
                due("serial", x.count(0), 1 + written);
                due("sector of " + size, x.count(1), written % size);
                due("on the disk", x.at(written % size, 4), (1 + written) % 256);
            }
            due("sector 0 was written", x.at(0, 4), 1 + size);
            due("the last one before it", x.at(size - 1, 4), size);
            x.cut(0, 0);
            due("start", x.start(), 0);
            due("serial again", x.count(0), 1 + written);
            due("sector again", x.count(1), written % size);
        }
        StoreLog3 y = new StoreLog3(16);
        for (int n = 0; n < 13; n++) {
            y.checkpoint();
        }
        y.sync();
        Scenes.commitOne(y, 1, 1);
        Scenes.commitOne(y, 2, 2);
        Scenes.commitOne(y, 3, 3);
        Scenes.commitOne(y, 4, 4);
        Scenes.commitOne(y, 5, 5);
        due("logs go round too", y.sync(), 3);
        due("sector", y.count(1), 0);
        due("sector 15 tells", y.at(15, 4), 16);
        due("sector 0 tells", y.at(0, 4), 17);
        due("needed, round", y.count(4), 4);
    }

    private static void serialsGoOverTheTop() {
        checks.about(15, "(0 behind 4294967295, here and in runs)");
        StoreLog3 x = Scenes.down(16);
        Images.lay(x, 0, Images.page(0, 4294967293L, 0, 1));
        x.start();
        due("before", x.count(0), -3);
        long[] serials = {4294967294L, 4294967295L, 0, 1};
        for (int n = 0; n < 4; n++) {
            Scenes.commitOne(x, n, n + 100);
            due("sync", x.sync(), 1);
            due("serial", x.count(0), (int) serials[n]);
            dueImage(x, "log " + n, 1 + n, Images.log(1 + n, serials[n], Images.entry(0, Images.PUT, n, n + 100),
                    Images.entry(0, Images.COMMIT, 0, 0)));
        }
        x.cut(0, 0);
        due("start", x.start(), 0);
        for (int n = 0; n < 4; n++) {
            due("in the run, " + n, x.get(n), n + 100);
        }
        due("end of the run", x.count(0), 1);
        due("sector", x.count(1), 4);
    }

    private static void fourEntries() {
        checks.about(15, "ENTRIES come together in memory; when there are four they are written as a LOG.");
        StoreLog3 x = Scenes.open(16, 2);
        for (int n = 1; n <= 12; n++) {
            if (n == 4) {
                x.commit(0);
            } else if (n == 8) {
                x.undo(1);
            } else {
                x.put(n < 4 ? 0 : 1, n, n);
            }
            if (n == 8) {
                x.begin();
                x.begin();
            }
            due("entries of " + n, x.count(3), n % 4);
            due("writes of " + n, x.count(2), n / 4);
            due("serial of " + n, x.count(0), 1 + n / 4);
        }
    }

    private static void waiting() {
        checks.about(8, "A write first waits in memory; all that wait are put on the disk in their order by sync().");
        StoreLog3 x = Scenes.waiting(16, 3, 0);
        due("wait", x.count(2), 3);
        for (int sector = 1; sector <= 3; sector++) {
            due("not on the disk", x.at(sector, 0), 0);
        }
        due("sync", x.sync(), 3);
        for (int n = 0; n < 3; n++) {
            int[][] entries = new int[4][];
            for (int e = 0; e < 4; e++) {
                int put = 4 * n + e;
                entries[e] = Images.entry(0, Images.PUT, put % 5, 1000 + put);
            }
            dueImage(x, "log " + n, 1 + n, Images.log(1 + n, 2 + n, entries));
        }
        due("no more wait", x.count(2), 0);
    }

    private static void pagesOfCheckpoint() {
        checks.about(9, "THE PAGES of a CHECKPOINT tell all keys that have values, rising, five each "
                + "(the last one what is left; one page without keys if there are none).");
        StoreLog3 x = new StoreLog3(32);
        int[] keys = {31, 0, 9, 4, 22, 17, 8};
        for (int key : keys) {
            Scenes.commitOne(x, key, 70000 * key);
        }
        Scenes.commitOne(x, 8, NONE);
        due("two pages", x.checkpoint(), 2);
        due("sync", x.sync(), 6);
        dueImage(x, "first", 5, Images.page(5, 6, 0, 2, Images.pair(0, 0), Images.pair(4, 280000),
                Images.pair(9, 630000), Images.pair(17, 1190000), Images.pair(22, 1540000)));
        dueImage(x, "last", 6, Images.page(6, 7, 1, 2, Images.pair(31, 2170000)));
        Scenes.commitOne(x, 0, NONE);
        due("five keys", x.checkpoint(), 1);
        x.sync();
        due("five", x.at(8, 5), 5);
        for (int key : keys) {
            Scenes.commitOne(x, key, NONE);
        }
        due("no keys", x.checkpoint(), 1);
        x.sync();
        int last = x.count(1);
        dueImage(x, "without keys", last, Images.page(last, last + 1, 0, 1));
    }

    private static void neededFromWhole() {
        checks.about(15, "NEEDED are all sectors from the first page of the last checkpoint that is WHOLE ON THE DISK "
                + "(all its pages are put there)");
        StoreLog3 x = Scenes.withKeys(32, 6);
        due("from the first of all", x.count(4), 2);
        x.checkpoint();
        due("one that waits is not there", x.count(4), 5);
        x.sync();
        due("from its first page", x.count(4), 2);
        x.checkpoint();
        x.checkpoint();
        due("two wait", x.count(4), 6);
        x.sync();
        due("the last of two", x.count(4), 2);
        x.poke(x.count(1), 0, 1);
        due("damage is not looked at", x.count(4), 2);
        for (int keep = 0; keep <= 2; keep++) {
            StoreLog3 y = Scenes.withKeys(32, 6);
            y.sync();
            y.checkpoint();
            y.cut(keep, 0);
            y.start();
            due("with " + keep + " pages put there", y.count(4), keep == 2 ? 2 : 3 + keep);
        }
    }

    private static void neededUpToLatest() {
        checks.about(15, "up to the latest one that was written (waiting or not).");
        StoreLog3 x = Scenes.open(16, 1);
        for (int n = 0; n < 15; n++) {
            due("needed", x.count(4), 1 + n);
            for (int e = 0; e < 4; e++) {
                due("entries are not", x.count(4), 1 + n);
                x.put(0, e, n);
            }
            if (n % 2 == 0) {
                x.sync();
            }
        }
        due("all", x.count(4), 16);
    }

    private static void noNeededIsWritten() {
        checks.about(8, "No needed sector is written: what would do so is FULL.");
        StoreLog3 x = Scenes.full(16, 1);
        due("sync", x.sync(), FULL);
        x.put(0, 0, 1);
        x.put(0, 0, 2);
        due("put", x.put(0, 0, 3), FULL);
        due("commit", x.commit(0), FULL);
        due("undo", x.undo(0), FULL);
        x.cut(15, 32);
        dueImage(x, "the checkpoint", 0, Images.page(0, 1, 0, 1));
        due("start", x.start(), 1);
        due("needed", x.count(4), 16);
        due("its entry can't be written", x.sync(), FULL);
        due("nor a checkpoint", x.checkpoint(), FULL);

        StoreLog3 y = new StoreLog3(16);
        for (int n = 0; n < 10; n++) {
            y.checkpoint();
        }
        y.sync();
        for (int n = 0; n < 15; n++) {
            due("room behind", y.checkpoint(), 1);
        }
        due("needed, round", y.count(4), 16);
        due("checkpoint, round", y.checkpoint(), FULL);
        y.cut(15, 0);
        due("the one that was needed", y.at(10, 4), 11);
        due("the one before it is new", y.at(9, 4), 26);
    }

    private static void atFirst() {
        checks.about(1, "At first sector 0 is the page of a checkpoint without keys, serial 1, on the disk; all others are 0.");
        StoreLog3 x = new StoreLog3(16);
        dueImage(x, "page", 0, Images.page(0, 1, 0, 1));
        for (int sector = 1; sector < 15; sector++) {
            dueImage(x, "others", sector, new int[32]);
        }
        StoreLog3 y = Scenes.down(16);
        due("start", y.start(), 0);
        due("serial", y.count(0), 1);
        due("needed", y.count(4), 1);
        y.checkpoint();
        y.sync();
        due("the next is sector 1", y.at(1, 4), 2);
    }
}
