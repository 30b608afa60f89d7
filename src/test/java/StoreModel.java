import java.util.ArrayList;
import java.util.Arrays;
import java.util.List;
import java.util.Map;
import java.util.TreeMap;

/**
 * The document told a second time, in another way: lists and maps instead of rows, and places in
 * the log as numbers that only grow.
 */
final class StoreModel {
    private static final int NONE = -1, FULL = -2, DOWN = -3, BROKEN = -4;

    private record Write(int sector, int[] image, long checkpointPlace) {
    }

    private record Told(boolean log, long serial, List<int[]> items, int page, int pages) {
    }

    private final int size;
    private final int[][] disk;
    private final List<Write> waiting = new ArrayList<>();
    private final List<int[]> entries = new ArrayList<>();
    private final TreeMap<Integer, Integer> values = new TreeMap<>();
    /** What each open transaction changed (NONE: it goes); null for one that is not open. */
    private final List<TreeMap<Integer, Integer>> changes = new ArrayList<>();
    private long serial;
    /** The place of the latest write; its sector is what is left of it by the size. */
    private long place;
    private long neededFrom;
    private boolean running;
    private int commits;

    StoreModel(int sectors) {
        size = sectors < 16 ? 16 : sectors > 64 ? 64 : sectors;
        disk = new int[size][];
        asAtFirst();
    }

    int size() {
        return size;
    }

    int[] image(int sector) {
        return disk[sector].clone();
    }

    private void asAtFirst() {
        for (int sector = 0; sector < size; sector++) {
            disk[sector] = new int[32];
        }
        disk[0] = Images.page(0, 1, 0, 1);
        forget();
        serial = 1;
        place = 0;
        neededFrom = 0;
        running = true;
    }

    private void forget() {
        waiting.clear();
        entries.clear();
        values.clear();
        changes.clear();
        changes.addAll(Arrays.asList(null, null, null));
        commits = 0;
    }

    private boolean isOpen(int transaction) {
        return transaction >= 0 && transaction < 3 && changes.get(transaction) != null;
    }

    private long room() {
        return size - (place - neededFrom + 1);
    }

    int begin() {
        if (!running) {
            return DOWN;
        }
        int free = changes.indexOf(null);
        if (free >= 0) {
            changes.set(free, new TreeMap<>());
        }
        return free;
    }

    int put(int transaction, int key, int value) {
        if (!running) {
            return DOWN;
        }
        if (!isOpen(transaction) || key < 0 || key > 31 || value < -1 || value > 0xFFFFFF) {
            return NONE;
        }
        if (owner(key) >= 0 && owner(key) != transaction) {
            return 0;
        }
        if (entries.size() == 3 && room() == 0) {
            return FULL;
        }
        changes.get(transaction).put(key, value);
        addEntry(transaction, value == NONE ? Images.GOES : Images.PUT, key, Math.max(value, 0));
        return 1;
    }

    private int owner(int key) {
        for (int transaction = 0; transaction < 3; transaction++) {
            if (isOpen(transaction) && changes.get(transaction).containsKey(key)) {
                return transaction;
            }
        }
        return NONE;
    }

    private void addEntry(int transaction, int what, int key, int value) {
        entries.add(Images.entry(transaction, what, key, value));
        if (entries.size() == 4) {
            writeEntries();
        }
    }

    private void writeEntries() {
        if (!entries.isEmpty()) {
            step();
            waiting.add(new Write(sector(), Images.log(sector(), serial, entries.toArray(new int[0][])), NONE));
            entries.clear();
        }
    }

    private void step() {
        place++;
        serial = (serial + 1) % 4294967296L;
    }

    private int sector() {
        return (int) (place % size);
    }

    int commit(int transaction) {
        int held = end(transaction, Images.COMMIT);
        commits += held >= 0 ? 1 : 0;
        return held;
    }

    int undo(int transaction) {
        return end(transaction, Images.UNDO);
    }

    private int end(int transaction, int how) {
        if (!running) {
            return DOWN;
        }
        if (!isOpen(transaction)) {
            return NONE;
        }
        if (entries.size() == 3 && room() == 0) {
            return FULL;
        }
        int held = changes.get(transaction).size();
        addEntry(transaction, how, 0, 0);
        settle(transaction, how);
        return held;
    }

    private void settle(int transaction, int how) {
        if (how == Images.COMMIT && isOpen(transaction)) {
            values.putAll(changes.get(transaction));
            values.values().removeIf(value -> value == NONE);
        }
        changes.set(transaction, null);
    }

    int get(int key) {
        return running ? values.getOrDefault(key, NONE) : DOWN;
    }

    int seen(int transaction, int key) {
        if (!running) {
            return DOWN;
        }
        return isOpen(transaction) ? changes.get(transaction).getOrDefault(key, get(key)) : NONE;
    }

    int sync() {
        if (!running) {
            return DOWN;
        }
        if (!entries.isEmpty() && room() == 0) {
            return FULL;
        }
        writeEntries();
        for (Write write : waiting) {
            disk[write.sector] = write.image.clone();
            neededFrom = Math.max(neededFrom, write.checkpointPlace);
        }
        int written = waiting.size();
        waiting.clear();
        return written;
    }

    int checkpoint() {
        if (!running) {
            return DOWN;
        }
        if (count(5) != 0) {
            return NONE;
        }
        int pages = Math.max(1, (values.size() + 4) / 5);
        if (room() < pages + (entries.isEmpty() ? 0 : 1)) {
            return FULL;
        }
        writeEntries();
        List<int[]> pairs = new ArrayList<>();
        for (Map.Entry<Integer, Integer> row : values.entrySet()) {
            pairs.add(Images.pair(row.getKey(), row.getValue()));
        }
        for (int page = 0; page < pages; page++) {
            step();
            int[][] own = pairs.subList(5 * page, Math.min(5 * page + 5, pairs.size())).toArray(new int[0][]);
            long first = page == pages - 1 ? place - page : NONE;
            waiting.add(new Write(sector(), Images.page(sector(), serial, page, pages, own), first));
        }
        return pages;
    }

    int cut(int keep, int tear) {
        if (!running) {
            return DOWN;
        }
        int waited = waiting.size();
        if (keep < 0 || keep > waited || tear < 0 || tear > 32) {
            return NONE;
        }
        for (int n = 0; n < waited; n++) {
            int length = n < keep ? 32 : n == keep ? tear : 0;
            System.arraycopy(waiting.get(n).image, 0, disk[waiting.get(n).sector], 0, length);
        }
        forget();
        running = false;
        return waited;
    }

    int start() {
        if (running) {
            return NONE;
        }
        Told[] told = new Told[size];
        for (int sector = 0; sector < size; sector++) {
            told[sector] = sound(sector) ? tell(disk[sector]) : null;
        }
        int best = NONE;
        for (int sector = size - 1; sector >= 0; sector--) {
            if (isThere(told, sector) && (best < 0 || told[sector].serial >= told[best].serial)) {
                best = sector;
            }
        }
        if (best < 0) {
            return BROKEN;
        }
        running = true;
        goOver(told, best);
        int undone = 0;
        for (int transaction = 0; transaction < 3; transaction++) {
            if (isOpen(transaction)) {
                undone++;
                end(transaction, Images.UNDO);
            }
        }
        return undone;
    }

    private static Told tell(int[] b) {
        boolean log = b[0] == 1;
        int items = b[5];
        if (b[0] != 1 && b[0] != 2 || items > (log ? 4 : 5) || log && items == 0 || !log && b[26] >= b[27]) {
            return null;
        }
        List<int[]> rows = new ArrayList<>();
        for (int n = 0; n < items; n++) {
            int from = log ? 6 + 5 * n : 6 + 4 * n;
            int key = log ? from + 1 : from;
            if (b[key] > 31 || log && b[from] / 4 > 2) {
                return null;
            }
            int value = b[key + 1] * 65536 + b[key + 2] * 256 + b[key + 3];
            rows.add(log ? Images.entry(b[from] / 4, b[from] % 4, b[key], value) : Images.pair(b[key], value));
        }
        long serial = b[1] * 16777216L + b[2] * 65536L + b[3] * 256L + b[4];
        return new Told(log, serial, rows, b[26], b[27]);
    }

    private boolean isThere(Told[] told, int first) {
        Told head = told[first];
        if (head == null || head.log || head.page != 0) {
            return false;
        }
        for (int page = 1; page < head.pages; page++) {
            Told next = told[(first + page) % size];
            if (next == null || next.log || next.page != page || next.pages != head.pages
                    || next.serial != (head.serial + page) % 4294967296L) {
                return false;
            }
        }
        return true;
    }

    private void goOver(Told[] told, int first) {
        int pages = told[first].pages;
        neededFrom = first;
        place = first;
        serial = told[first].serial;
        while (true) {
            Told here = told[sector()];
            for (int[] row : here.items) {
                if (!here.log && place - neededFrom < pages) {
                    values.put(row[0], row[1]);
                } else if (here.log) {
                    replay(row[0], row[1], row[2], row[3]);
                }
            }
            Told next = told[(int) ((place + 1) % size)];
            if (next == null || next.serial != (serial + 1) % 4294967296L) {
                return;
            }
            step();
        }
    }

    private void replay(int transaction, int what, int key, int value) {
        if (what >= Images.COMMIT) {
            settle(transaction, what);
            return;
        }
        for (TreeMap<Integer, Integer> change : changes) {
            if (change != null) {
                change.remove(key);
            }
        }
        if (!isOpen(transaction)) {
            changes.set(transaction, new TreeMap<>());
        }
        changes.get(transaction).put(key, what == Images.PUT ? value : NONE);
    }

    int at(int sector, int i) {
        return sector >= 0 && sector < size && i >= 0 && i < 32 ? disk[sector][i] : NONE;
    }

    boolean sound(int sector) {
        return sector >= 0 && sector < size
                && Arrays.equals(disk[sector], Images.sealed(sector, disk[sector].clone()));
    }

    boolean poke(int sector, int i, int mask) {
        if (at(sector, i) < 0 || mask < 1 || mask > 255) {
            return false;
        }
        disk[sector][i] ^= mask;
        return true;
    }

    int count(int which) {
        if (!running) {
            return DOWN;
        }
        int open = (isOpen(0) ? 1 : 0) + (isOpen(1) ? 2 : 0) + (isOpen(2) ? 4 : 0);
        int[] counts = {(int) serial, sector(), waiting.size(), entries.size(), (int) (place - neededFrom + 1), open, commits};
        return which >= 0 && which < counts.length ? counts[which] : NONE;
    }

    int holder(int key) {
        return running ? owner(key) : DOWN;
    }

    int format() {
        int ended = running ? commits : 0;
        asAtFirst();
        return ended;
    }
}
