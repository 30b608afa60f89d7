/**
 * A dictionary whose transactions are told by a log of sectors going round on a disk, so that
 * a start after a cut finds the last state that the disk can prove.
 */
public final class StoreLog3 {
    public static final int NONE = -1, FULL = -2, DOWN = -3, BROKEN = -4;

    private static final int KEYS = 32;
    private static final int TRANSACTIONS = 3;
    private static final int TOP_VALUE = 16777215;

    private static final int FEWEST_SECTORS = 16;
    private static final int MOST_SECTORS = 64;
    private static final int SECTOR_BYTES = 32;
    private static final int SUM_MULTIPLIER = (int) 2246822519L;

    private static final int LOG = 1;
    private static final int PAGE = 2;
    private static final int FIRST_SERIAL = 1;
    private static final long WITHOUT_SIGN = 4294967295L;

    private static final int KIND_AT = 0;
    private static final int SERIAL_AT = 1;
    private static final int SIZE_AT = 5;
    private static final int ITEMS_AT = 6;
    private static final int PAGE_AT = 26;
    private static final int PAGES_AT = 27;
    private static final int SUM_AT = 28;

    private static final int LOG_ENTRIES = 4;
    private static final int ENTRY_BYTES = 5;
    private static final int PAGE_KEYS = 5;
    private static final int PAIR_BYTES = 4;
    private static final int SERIAL_BYTES = 4;
    private static final int SUM_BYTES = 4;
    private static final int VALUE_BYTES = 3;

    private static final int PUTS = 0;
    private static final int TAKES = 1;
    private static final int COMMITS = 2;
    private static final int UNDOES = 3;

    private final Journal journal;
    private final Dictionary dictionary;
    private final Finder finder;
    private boolean down;
    private int commits;

    public StoreLog3(int sectors) {
        journal = new Journal(sectors);
        dictionary = new Dictionary();
        finder = new Finder();
    }

    public int begin() {
        return down ? DOWN : dictionary.openLeast();
    }

    public int put(int transaction, int key, int value) {
        if (down) {
            return DOWN;
        }
        if (!dictionary.isOpen(transaction) || !isKey(key) || !isValue(value) && value != NONE) {
            return NONE;
        }
        int owner = dictionary.holderOf(key);
        if (owner != NONE && owner != transaction) {
            return 0;
        }
        if (!journal.canTakeEntry()) {
            return FULL;
        }
        dictionary.change(transaction, key, value);
        if (value == NONE) {
            journal.takeEntry(transaction, TAKES, key, 0);
        } else {
            journal.takeEntry(transaction, PUTS, key, value);
        }
        return 1;
    }

    public int commit(int transaction) {
        int held = endTransaction(transaction, COMMITS);
        if (held >= 0) {
            commits++;
        }
        return held;
    }

    public int undo(int transaction) {
        return endTransaction(transaction, UNDOES);
    }

    public int get(int key) {
        return down ? DOWN : dictionary.committedValue(key);
    }

    public int seen(int transaction, int key) {
        if (down) {
            return DOWN;
        }
        return dictionary.isOpen(transaction) ? dictionary.valueFor(transaction, key) : NONE;
    }

    public int sync() {
        if (down) {
            return DOWN;
        }
        if (!journal.hasRoom(journal.logsDue())) {
            return FULL;
        }
        journal.writeLog();
        return journal.putAllOnDisk();
    }

    public int checkpoint() {
        if (down) {
            return DOWN;
        }
        if (dictionary.openBits() != 0) {
            return NONE;
        }
        int pages = dictionary.pagesDue();
        if (!journal.hasRoom(journal.logsDue() + pages)) {
            return FULL;
        }
        journal.writeLog();
        journal.writePages(dictionary, pages);
        return pages;
    }

    public int cut(int keep, int tear) {
        if (down) {
            return DOWN;
        }
        int waited = journal.waiting();
        if (keep < 0 || keep > waited || tear < 0 || tear > SECTOR_BYTES) {
            return NONE;
        }
        journal.loseMemory(keep, tear);
        dictionary.clear();
        down = true;
        return waited;
    }

    public int start() {
        if (!down) {
            return NONE;
        }
        if (!finder.findCheckpoint(journal.disk)) {
            return BROKEN;
        }
        finder.readPages(journal.disk, dictionary);
        finder.goOverRun(journal.disk, dictionary);
        journal.goOn(finder.firstPage(), finder.runEnd());
        commits = 0;
        down = false;
        return undoAllOpen();
    }

    public int at(int sector, int i) {
        return journal.disk.byteOf(sector, i);
    }

    public boolean sound(int sector) {
        return journal.disk.isSound(sector);
    }

    public boolean poke(int sector, int i, int mask) {
        int old = journal.disk.byteOf(sector, i);
        if (old == NONE || mask < 1 || mask > 255) {
            return false;
        }
        journal.disk.setByte(sector, i, old ^ mask);
        return true;
    }

    public int count(int which) {
        if (down) {
            return DOWN;
        }
        switch (which) {
            case 0: return journal.lastSerial();
            case 1: return journal.lastSector();
            case 2: return journal.waiting();
            case 3: return journal.entries();
            case 4: return journal.needed();
            case 5: return dictionary.openBits();
            case 6: return commits;
            default: return NONE;
        }
    }

    public int holder(int key) {
        return down ? DOWN : dictionary.holderOf(key);
    }

    public int format() {
        int ended = down ? 0 : commits;
        journal.beginAnew();
        dictionary.clear();
        commits = 0;
        down = false;
        return ended;
    }

    private int endTransaction(int transaction, int how) {
        if (down) {
            return DOWN;
        }
        if (!dictionary.isOpen(transaction)) {
            return NONE;
        }
        if (!journal.canTakeEntry()) {
            return FULL;
        }
        journal.takeEntry(transaction, how, 0, 0);
        return dictionary.close(transaction, how == COMMITS);
    }

    private int undoAllOpen() {
        int undone = 0;
        for (int transaction = 0; transaction < TRANSACTIONS; transaction++) {
            if (dictionary.isOpen(transaction)) {
                journal.takeEntry(transaction, UNDOES, 0, 0);
                dictionary.close(transaction, false);
                undone++;
            }
        }
        return undone;
    }

    private static boolean isTransaction(int transaction) {
        return transaction >= 0 && transaction < TRANSACTIONS;
    }

    private static boolean isKey(int key) {
        return key >= 0 && key < KEYS;
    }

    private static boolean isValue(int value) {
        return value >= 0 && value <= TOP_VALUE;
    }

    /** The keys with their values, and what open transactions have changed. */
    private static final class Dictionary {
        private final int[] committed = new int[KEYS];
        // One row serves all transactions: a key has one holder at a time.
        private final int[] changed = new int[KEYS];
        private final int[] holders = new int[KEYS];
        private int open;

        Dictionary() {
            clear();
        }

        void clear() {
            for (int key = 0; key < KEYS; key++) {
                committed[key] = NONE;
                changed[key] = NONE;
                holders[key] = NONE;
            }
            open = 0;
        }

        int openLeast() {
            for (int transaction = 0; transaction < TRANSACTIONS; transaction++) {
                if (!isOpen(transaction)) {
                    open |= 1 << transaction;
                    return transaction;
                }
            }
            return NONE;
        }

        boolean isOpen(int transaction) {
            return isTransaction(transaction) && (open >> transaction & 1) == 1;
        }

        int openBits() {
            return open;
        }

        int holderOf(int key) {
            return isKey(key) ? holders[key] : NONE;
        }

        int committedValue(int key) {
            return isKey(key) ? committed[key] : NONE;
        }

        int valueFor(int transaction, int key) {
            if (!isKey(key)) {
                return NONE;
            }
            return holders[key] == transaction ? changed[key] : committed[key];
        }

        void setCommitted(int key, int value) {
            if (isKey(key)) {
                committed[key] = value;
            }
        }

        /** Opens the transaction too, as the log tells of no begin. */
        void change(int transaction, int key, int value) {
            if (isTransaction(transaction) && isKey(key)) {
                open |= 1 << transaction;
                holders[key] = transaction;
                changed[key] = value;
            }
        }

        int close(int transaction, boolean keeps) {
            if (!isOpen(transaction)) {
                return 0;
            }
            int held = 0;
            for (int key = 0; key < KEYS; key++) {
                if (holders[key] == transaction) {
                    held++;
                    holders[key] = NONE;
                    committed[key] = keeps ? changed[key] : committed[key];
                }
            }
            open &= ~(1 << transaction);
            return held;
        }

        int pagesDue() {
            int told = 0;
            int pages = 1;
            for (int key = 0; key < KEYS; key++) {
                if (committed[key] != NONE) {
                    told++;
                    if (told > pages * PAGE_KEYS) {
                        pages++;
                    }
                }
            }
            return pages;
        }

        int nextWithValue(int from) {
            for (int key = Math.max(from, 0); key < KEYS; key++) {
                if (committed[key] != NONE) {
                    return key;
                }
            }
            return KEYS;
        }
    }

    /** Sectors with their bytes, either those on the disk or those that wait in memory. */
    private static final class Sectors {
        private final int size;
        private final byte[] bytes;

        Sectors(int wished) {
            size = Math.max(FEWEST_SECTORS, Math.min(MOST_SECTORS, wished));
            bytes = new byte[size * SECTOR_BYTES];
        }

        int size() {
            return size;
        }

        int behind(int sector) {
            return sector >= 0 && sector < size - 1 ? sector + 1 : 0;
        }

        int stepsBetween(int from, int to) {
            return to >= from ? to - from : to - from + size;
        }

        /** 0 .. 255, or NONE where there is no such byte. */
        int byteOf(int sector, int i) {
            if (sector < 0 || sector >= size || i < 0 || i >= SECTOR_BYTES) {
                return NONE;
            }
            return bytes[sector * SECTOR_BYTES + i] & 255;
        }

        void setByte(int sector, int i, int value) {
            if (sector < 0 || sector >= size || i < 0 || i >= SECTOR_BYTES) {
                return;
            }
            bytes[sector * SECTOR_BYTES + i] = (byte) value;
        }

        int numberOf(int sector, int from, int width) {
            int number = 0;
            for (int i = 0; i < width; i++) {
                number = number << 8 | byteOf(sector, from + i);
            }
            return number;
        }

        void setNumber(int sector, int from, int width, int number) {
            int rest = number;
            for (int i = width - 1; i >= 0; i--) {
                setByte(sector, from + i, rest);
                rest >>>= 8;
            }
        }

        int serialOf(int sector) {
            return numberOf(sector, SERIAL_AT, SERIAL_BYTES);
        }

        boolean isSound(int sector) {
            return byteOf(sector, SUM_AT) != NONE && numberOf(sector, SUM_AT, SUM_BYTES) == sumOf(sector);
        }

        void prepare(int sector, int kind, int serial, int items) {
            for (int i = 0; i < SECTOR_BYTES; i++) {
                setByte(sector, i, 0);
            }
            setByte(sector, KIND_AT, kind);
            setNumber(sector, SERIAL_AT, SERIAL_BYTES, serial);
            setByte(sector, SIZE_AT, items);
        }

        void seal(int sector) {
            setNumber(sector, SUM_AT, SUM_BYTES, sumOf(sector));
        }

        void copyStart(Sectors from, int sector, int length) {
            for (int i = 0; i < length && i < SECTOR_BYTES; i++) {
                setByte(sector, i, from.byteOf(sector, i));
            }
        }

        void clear() {
            for (int i = 0; i < bytes.length; i++) {
                bytes[i] = 0;
            }
        }

        /** Goes past byteOf, as this is where a start spends most of its time. */
        private int sumOf(int sector) {
            if (sector < 0 || sector >= size) {
                return 0;
            }
            int from = sector * SECTOR_BYTES;
            int sum = sector + 1;
            for (int i = 0; i < SUM_AT; i++) {
                int mixed = sum ^ (bytes[from + i] & 255);
                sum = (mixed << 11 | mixed >>> 21) * SUM_MULTIPLIER;
            }
            return sum;
        }
    }

    /** What is written: entries that come together, sectors that wait, and the disk itself. */
    private static final class Journal {
        final Sectors disk;
        // No needed sector is written, so no two writes that wait are for the same sector.
        private final Sectors memory;
        private final int[] entryHeads = new int[LOG_ENTRIES];
        private final int[] entryKeys = new int[LOG_ENTRIES];
        private final int[] entryValues = new int[LOG_ENTRIES];
        private int entries;
        private int waiting;
        private int firstWaiting;
        private int lastSerial;
        private int lastSector;
        private int firstNeeded;
        private int firstPageWaiting;

        Journal(int sectors) {
            disk = new Sectors(sectors);
            memory = new Sectors(sectors);
            beginAnew();
        }

        void beginAnew() {
            disk.clear();
            disk.prepare(0, PAGE, FIRST_SERIAL, 0);
            disk.setByte(0, PAGES_AT, 1);
            disk.seal(0);
            lastSerial = FIRST_SERIAL;
            lastSector = 0;
            firstNeeded = 0;
            forgetMemory();
        }

        int entries() {
            return entries;
        }

        int waiting() {
            return waiting;
        }

        int lastSerial() {
            return lastSerial;
        }

        int lastSector() {
            return lastSector;
        }

        int needed() {
            return disk.stepsBetween(firstNeeded, lastSector) + 1;
        }

        boolean hasRoom(int writes) {
            return needed() + writes <= disk.size();
        }

        int logsDue() {
            return entries > 0 ? 1 : 0;
        }

        boolean canTakeEntry() {
            return entries < LOG_ENTRIES - 1 || hasRoom(1);
        }

        void takeEntry(int transaction, int what, int key, int value) {
            if (entries < 0 || entries >= LOG_ENTRIES) {
                return;
            }
            entryHeads[entries] = 4 * transaction + what;
            entryKeys[entries] = key;
            entryValues[entries] = value;
            entries++;
            if (entries == LOG_ENTRIES) {
                writeLog();
            }
        }

        void writeLog() {
            if (entries == 0) {
                return;
            }
            goToNext();
            memory.prepare(lastSector, LOG, lastSerial, entries);
            for (int n = 0; n < entries && n < LOG_ENTRIES; n++) {
                int from = ITEMS_AT + n * ENTRY_BYTES;
                memory.setByte(lastSector, from, entryHeads[n]);
                memory.setByte(lastSector, from + 1, entryKeys[n]);
                memory.setNumber(lastSector, from + 2, VALUE_BYTES, entryValues[n]);
            }
            memory.seal(lastSector);
            entries = 0;
        }

        void writePages(Dictionary dictionary, int pages) {
            int key = dictionary.nextWithValue(0);
            for (int page = 0; page < pages; page++) {
                goToNext();
                if (page == 0) {
                    firstPageWaiting = lastSector;
                }
                key = writePairs(dictionary, key);
                memory.setByte(lastSector, PAGE_AT, page);
                memory.setByte(lastSector, PAGES_AT, pages);
                memory.seal(lastSector);
            }
        }

        int putAllOnDisk() {
            int written = waiting;
            putOnDisk(waiting);
            waiting = 0;
            if (firstPageWaiting != NONE) {
                firstNeeded = firstPageWaiting;
                firstPageWaiting = NONE;
            }
            return written;
        }

        void loseMemory(int keep, int tear) {
            int torn = putOnDisk(keep);
            if (keep < waiting) {
                disk.copyStart(memory, torn, tear);
            }
            forgetMemory();
        }

        void goOn(int firstPage, int runEnd) {
            firstNeeded = firstPage;
            lastSector = runEnd;
            lastSerial = disk.serialOf(runEnd);
        }

        /** Answers the first key with a value that did not find room in this page. */
        private int writePairs(Dictionary dictionary, int firstKey) {
            memory.prepare(lastSector, PAGE, lastSerial, 0);
            int key = firstKey;
            int told = 0;
            while (told < PAGE_KEYS && key < KEYS) {
                int from = ITEMS_AT + told * PAIR_BYTES;
                memory.setByte(lastSector, from, key);
                memory.setNumber(lastSector, from + 1, VALUE_BYTES, dictionary.committedValue(key));
                told++;
                key = dictionary.nextWithValue(key + 1);
            }
            memory.setByte(lastSector, SIZE_AT, told);
            return key;
        }

        private void goToNext() {
            lastSerial++;
            lastSector = disk.behind(lastSector);
            if (waiting == 0) {
                firstWaiting = lastSector;
            }
            waiting++;
        }

        /** Answers the sector behind those that it put there. */
        private int putOnDisk(int writes) {
            int sector = firstWaiting;
            for (int n = 0; n < writes; n++) {
                disk.copyStart(memory, sector, SECTOR_BYTES);
                sector = disk.behind(sector);
            }
            return sector;
        }

        private void forgetMemory() {
            entries = 0;
            waiting = 0;
            firstPageWaiting = NONE;
        }
    }

    /** Finds the state that the disk can prove: a checkpoint and the run behind it. */
    private static final class Finder {
        // Looked at once for each start, as the sum of a sector is dear.
        private final boolean[] tells = new boolean[MOST_SECTORS];
        private int firstPage;
        private int pages;
        private int runEnd;

        int firstPage() {
            return firstPage;
        }

        int runEnd() {
            return runEnd;
        }

        boolean findCheckpoint(Sectors disk) {
            lookAt(disk);
            pages = 0;
            for (int sector = 0; sector < disk.size(); sector++) {
                int there = pagesFrom(disk, sector);
                if (there > 0 && (pages == 0 || isLater(disk.serialOf(sector), disk.serialOf(firstPage)))) {
                    firstPage = sector;
                    pages = there;
                }
            }
            return pages > 0;
        }

        void readPages(Sectors disk, Dictionary dictionary) {
            int sector = firstPage;
            for (int page = 0; page < pages; page++) {
                readPage(disk, sector, dictionary);
                runEnd = sector;
                sector = disk.behind(sector);
            }
        }

        /** Moves the end of the run, which was the checkpoint's last page, as far as it goes. */
        void goOverRun(Sectors disk, Dictionary dictionary) {
            for (int n = 0; n < disk.size(); n++) {
                int sector = disk.behind(runEnd);
                if (!isTelling(sector) || disk.serialOf(sector) != disk.serialOf(runEnd) + 1) {
                    return;
                }
                if (disk.byteOf(sector, KIND_AT) == LOG) {
                    goOverLog(disk, sector, dictionary);
                }
                runEnd = sector;
            }
        }

        private void lookAt(Sectors disk) {
            for (int sector = 0; sector < tells.length; sector++) {
                tells[sector] = (isLog(disk, sector) || isPage(disk, sector)) && disk.isSound(sector);
            }
        }

        private boolean isTelling(int sector) {
            return sector >= 0 && sector < tells.length && tells[sector];
        }

        /** How many pages the checkpoint has that begins there; 0 where none is there. */
        private int pagesFrom(Sectors disk, int first) {
            int all = disk.byteOf(first, PAGES_AT);
            int sector = first;
            for (int page = 0; page < all; page++) {
                if (!isTelling(sector) || disk.byteOf(sector, KIND_AT) != PAGE
                        || disk.byteOf(sector, PAGE_AT) != page || disk.byteOf(sector, PAGES_AT) != all
                        || disk.serialOf(sector) != disk.serialOf(first) + page) {
                    return 0;
                }
                sector = disk.behind(sector);
            }
            return all;
        }

        private static boolean isLater(int serial, int than) {
            return (serial & WITHOUT_SIGN) > (than & WITHOUT_SIGN);
        }

        private static boolean isLog(Sectors disk, int sector) {
            int size = disk.byteOf(sector, SIZE_AT);
            if (disk.byteOf(sector, KIND_AT) != LOG || size < 1 || size > LOG_ENTRIES) {
                return false;
            }
            for (int n = 0; n < size; n++) {
                int from = ITEMS_AT + n * ENTRY_BYTES;
                if (!isTransaction(disk.byteOf(sector, from) >> 2) || !isKey(disk.byteOf(sector, from + 1))) {
                    return false;
                }
            }
            return true;
        }

        private static boolean isPage(Sectors disk, int sector) {
            int size = disk.byteOf(sector, SIZE_AT);
            if (disk.byteOf(sector, KIND_AT) != PAGE || size > PAGE_KEYS) {
                return false;
            }
            for (int n = 0; n < size; n++) {
                if (!isKey(disk.byteOf(sector, ITEMS_AT + n * PAIR_BYTES))) {
                    return false;
                }
            }
            return disk.byteOf(sector, PAGE_AT) < disk.byteOf(sector, PAGES_AT);
        }

        private static void readPage(Sectors disk, int sector, Dictionary dictionary) {
            int size = disk.byteOf(sector, SIZE_AT);
            for (int n = 0; n < size; n++) {
                int from = ITEMS_AT + n * PAIR_BYTES;
                dictionary.setCommitted(disk.byteOf(sector, from), disk.numberOf(sector, from + 1, VALUE_BYTES));
            }
        }

        private static void goOverLog(Sectors disk, int sector, Dictionary dictionary) {
            int size = disk.byteOf(sector, SIZE_AT);
            for (int n = 0; n < size; n++) {
                int from = ITEMS_AT + n * ENTRY_BYTES;
                int transaction = disk.byteOf(sector, from) >> 2;
                int what = disk.byteOf(sector, from) & 3;
                int key = disk.byteOf(sector, from + 1);
                if (what == PUTS) {
                    dictionary.change(transaction, key, disk.numberOf(sector, from + 2, VALUE_BYTES));
                } else if (what == TAKES) {
                    dictionary.change(transaction, key, NONE);
                } else {
                    dictionary.close(transaction, what == COMMITS);
                }
            }
        }
    }
}
