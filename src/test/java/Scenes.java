/** Stores in states that several tests begin from. */
final class Scenes {
    static final int NONE = -1, FULL = -2, DOWN = -3, BROKEN = -4;
    static final int LEAST = Integer.MIN_VALUE, MOST = Integer.MAX_VALUE;
    static final int[] NO_KEYS = {LEAST, -2, -1, 32, 33, 256, MOST};
    static final int[] NO_TRANSACTIONS = {LEAST, -2, -1, 3, 4, 31, 32, 33, MOST};
    static final int[] NO_VALUES = {LEAST, -4, -3, -2, 16777216, 16777217, MOST};

    private Scenes() {
    }

    static StoreLog3 open(int sectors, int transactions) {
        StoreLog3 x = new StoreLog3(sectors);
        for (int n = 0; n < transactions; n++) {
            x.begin();
        }
        return x;
    }

    /** Transaction 0 is open, so many logs wait, so many entries (0 .. 3) have come together. */
    static StoreLog3 waiting(int sectors, int logs, int entries) {
        StoreLog3 x = open(sectors, 1);
        for (int n = 0; n < 4 * logs + entries; n++) {
            x.put(0, n % 5, 1000 + n);
        }
        return x;
    }

    /** All sectors are needed, none of the logs is on the disk. */
    static StoreLog3 full(int sectors, int entries) {
        return waiting(sectors, sectors - 1, entries);
    }

    /** No transaction is open, so many logs wait, no entry has come together. */
    static StoreLog3 closed(int sectors, int logs) {
        StoreLog3 x = new StoreLog3(sectors);
        for (int n = 0; n < 2 * logs; n++) {
            commitOne(x, n % 2, n);
        }
        return x;
    }

    static StoreLog3 withKeys(int sectors, int keys) {
        StoreLog3 x = open(sectors, 1);
        for (int key = 0; key < keys; key++) {
            x.put(0, key, 70000 * key);
        }
        x.commit(0);
        return x;
    }

    static StoreLog3 down(int sectors) {
        StoreLog3 x = new StoreLog3(sectors);
        x.cut(0, 0);
        return x;
    }

    static void commitOne(StoreLog3 x, int key, int value) {
        int transaction = x.begin();
        x.put(transaction, key, value);
        x.commit(transaction);
    }
}
