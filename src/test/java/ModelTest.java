import java.util.Random;

/** Long chance runs, from fixed seeds, in which the store must answer as the model does. */
public final class ModelTest {
    private static final int RUNS = 20000;
    /** So few that a last look at all stays within the 512 calls that an object is used for. */
    private static final int CALLS = 360;
    private static final int[] EDGES = {Integer.MIN_VALUE, -5, -2, -1, 0, 1, 2, 3, 31, 32, 255, 256, 16777215, 16777216,
        Integer.MAX_VALUE};

    private final Checks checks;
    private final Random random;
    private final StoreModel model;
    private final StoreLog3 store;
    private final String run;
    /** How many in a hundred calls damage or lay sectors; a run without any is an ordinary life. */
    private final int damage;
    private final int keys;
    private int calls = 0;

    private ModelTest(Checks checks, int seed) {
        this.checks = checks;
        random = new Random(seed);
        run = "run " + seed + ", ";
        int sectors = random.nextInt(4) == 0 ? random.nextInt(90) - 10 : 16 + random.nextInt(5);
        model = new StoreModel(sectors);
        store = new StoreLog3(sectors);
        damage = random.nextInt(3) * 4;
        keys = random.nextBoolean() ? 4 : 32;
    }

    public static void main(String[] args) {
        Checks checks = new Checks();
        for (int seed = 0; seed < RUNS && checks.wrong() == 0; seed++) {
            new ModelTest(checks, seed).go();
        }
        checks.finish();
    }

    private void go() {
        while (calls < CALLS && checks.wrong() == 0) {
            if (random.nextInt(100) < damage) {
                damageDisk();
            } else if (random.nextInt(25) == 0) {
                wrongCall();
            } else {
                call();
            }
            look();
        }
        lookAtAll();
    }

    private void due(String call, long got, long want) {
        calls++;
        checks.due(run + "call " + calls + ", " + call, got, want);
    }

    private int transaction() {
        return random.nextInt(3);
    }

    private void call() {
        switch (random.nextInt(32)) {
            case 0, 1, 2, 3 -> due("begin()", store.begin(), model.begin());
            case 4, 5, 6, 7 -> commit(transaction());
            case 8, 9 -> undo(transaction());
            case 10, 11 -> due("sync()", store.sync(), model.sync());
            case 12, 13 -> checkpoint();
            case 14 -> cutAndStart();
            case 15 -> due("start()", store.start(), model.start());
            case 16 -> format();
            default -> put(transaction(), random.nextInt(keys), random.nextInt(4) == 0 ? -1 : value());
        }
    }

    private int value() {
        return random.nextBoolean() ? random.nextInt(10) : random.nextInt(16777216);
    }

    private void wrongCall() {
        int a = EDGES[random.nextInt(EDGES.length)];
        int b = EDGES[random.nextInt(EDGES.length)];
        int c = EDGES[random.nextInt(EDGES.length)];
        switch (random.nextInt(10)) {
            case 0 -> put(a, b, c);
            case 1 -> commit(a);
            case 2 -> undo(a);
            case 3 -> due("get", store.get(a), model.get(a));
            case 4 -> due("seen", store.seen(a, b), model.seen(a, b));
            case 5 -> cut(a, b);
            case 6 -> due("at", store.at(a, b), model.at(a, b));
            case 7 -> due("sound", store.sound(a) ? 1 : 0, model.sound(a) ? 1 : 0);
            case 8 -> poke(a, b, c);
            default -> due("holder", store.holder(a), model.holder(a));
        }
    }

    private void put(int transaction, int key, int value) {
        due("put(" + transaction + ", " + key + ", " + value + ")", store.put(transaction, key, value),
                model.put(transaction, key, value));
    }

    private void commit(int transaction) {
        due("commit(" + transaction + ")", store.commit(transaction), model.commit(transaction));
    }

    private void undo(int transaction) {
        due("undo(" + transaction + ")", store.undo(transaction), model.undo(transaction));
    }

    /** Ends what is open before most checkpoints, as they would be refused otherwise. */
    private void checkpoint() {
        if (random.nextInt(4) != 0) {
            for (int transaction = 0; transaction < 3; transaction++) {
                commit(transaction);
            }
        }
        due("checkpoint()", store.checkpoint(), model.checkpoint());
    }

    private void cut(int keep, int tear) {
        due("cut(" + keep + ", " + tear + ")", store.cut(keep, tear), model.cut(keep, tear));
    }

    private void cutAndStart() {
        int waiting = Math.max(0, model.count(2));
        cut(random.nextInt(waiting + 1), random.nextInt(3) == 0 ? 32 : random.nextInt(33));
        if (random.nextInt(4) != 0) {
            due("start()", store.start(), model.start());
        }
    }

    private void format() {
        if (random.nextInt(12) == 0) {
            due("format()", store.format(), model.format());
        }
    }

    private void poke(int sector, int i, int mask) {
        due("poke(" + sector + ", " + i + ", " + mask + ")", store.poke(sector, i, mask) ? 1 : 0,
                model.poke(sector, i, mask) ? 1 : 0);
    }

    private void damageDisk() {
        int sector = random.nextInt(3) == 0 ? random.nextInt(model.size()) : nearTheEnd();
        switch (random.nextInt(4)) {
            case 0 -> poke(sector, random.nextInt(32), 1 + random.nextInt(255));
            case 1 -> lay(sector, changedByte(sector));
            case 2 -> lay(sector, changedSerial(sector));
            default -> lay(sector, newLog(sector));
        }
        if (random.nextInt(3) == 0) {
            cutAndStart();
        }
    }

    private int nearTheEnd() {
        return Math.floorMod(Math.max(0, model.count(1)) + random.nextInt(6) - 3, model.size());
    }

    private int[] changedByte(int sector) {
        int[] places = {0, 5, 6, 7, 10, 11, 12, 26, 27};
        int[] image = model.image(sector);
        image[places[random.nextInt(places.length)]] = random.nextInt(3) == 0 ? random.nextInt(256) : random.nextInt(6);
        return Images.sealed(sector, image);
    }

    /** Near another sector's serial, or near the top, so that runs join and go over it. */
    private int[] changedSerial(int sector) {
        int[] image = model.image(sector);
        int[] before = model.image(Math.floorMod(sector - 1, model.size()));
        int serial = before[1] << 24 | before[2] << 16 | before[3] << 8 | before[4];
        serial = random.nextInt(4) == 0 ? -1 - random.nextInt(3) : serial + 1;
        for (int i = 0; i < 4; i++) {
            image[1 + i] = serial >>> 24 - 8 * i & 255;
        }
        return Images.sealed(sector, image);
    }

    private int[] newLog(int sector) {
        int[] before = model.image(Math.floorMod(sector - 1, model.size()));
        long serial = before[1] * 16777216L + before[2] * 65536L + before[3] * 256L + before[4];
        int[][] entries = new int[1 + random.nextInt(4)][];
        for (int n = 0; n < entries.length; n++) {
            entries[n] = Images.entry(transaction(), random.nextInt(4), random.nextInt(4), value());
        }
        return Images.log(sector, (serial + 1) % 4294967296L, entries);
    }

    private void lay(int sector, int[] image) {
        int[] old = model.image(sector);
        for (int i = 0; i < 32; i++) {
            if (old[i] != image[i]) {
                poke(sector, i, old[i] ^ image[i]);
            }
        }
    }

    private void look() {
        int key = random.nextInt(32);
        int which = random.nextInt(9) - 1;
        int sector = random.nextInt(model.size() + 1);
        int i = random.nextInt(32);
        int transaction = random.nextInt(4);
        switch (random.nextInt(5)) {
            case 0 -> due("get(" + key + ")", store.get(key), model.get(key));
            case 1 -> due("seen(" + transaction + ", " + key + ")", store.seen(transaction, key), model.seen(transaction, key));
            case 2 -> due("holder(" + key + ")", store.holder(key), model.holder(key));
            case 3 -> due("at(" + sector + ", " + i + ")", store.at(sector, i), model.at(sector, i));
            default -> due("count(" + which + ")", store.count(which), model.count(which));
        }
    }

    private void lookAtAll() {
        for (int which = 0; which < 7; which++) {
            due("last count(" + which + ")", store.count(which), model.count(which));
        }
        for (int key = 0; key < 32; key++) {
            due("last get(" + key + ")", store.get(key), model.get(key));
        }
        for (int sector = 0; sector < model.size(); sector++) {
            due("last sound(" + sector + ")", store.sound(sector) ? 1 : 0, model.sound(sector) ? 1 : 0);
        }
    }
}
