import java.util.Arrays;
import java.util.function.Supplier;
import java.util.function.ToIntFunction;

/** Calls while the store is down, and that a refused call changes nothing, in states of all kinds. */
public final class RefusalTest {
    private static final int NONE = Scenes.NONE, FULL = Scenes.FULL, DOWN = Scenes.DOWN, BROKEN = Scenes.BROKEN;
    private static final int[] ARGUMENTS = {Scenes.LEAST, -1, 0, 1, 2, 3, 16, 31, 32, 64, Scenes.MOST};
    private static final Checks checks = new Checks();

    private interface View {
        int[] of(StoreLog3 x);
    }

    /** All that can be asked, each on an object of its own, as an object is used for 512 calls at most. */
    private static final View[] VIEWS = {
        RefusalTest::answers,
        x -> bytes(x, 0),
        x -> bytes(x, 8),
        x -> synced(x, 0),
        x -> synced(x, 8),
        x -> cutWithAll(x, 0),
        x -> cutWithAll(x, 8),
        RefusalTest::startedAfterCut,
        RefusalTest::goingOn};

    public static void main(String[] args) {
        callsWhileDown();
        callsButThose();
        refusedBegin();
        refusedPut();
        refusedEnds();
        refusedSync();
        refusedCheckpoint();
        refusedCut();
        refusedStart();
        refusedLooks();
        refusedWhileDown();
        checks.finish();
    }

    private static void due(String what, long got, long want) {
        checks.due(what, got, want);
    }

    private static int[] answers(StoreLog3 x) {
        int[] row = new int[7 + 5 * 32 + 16];
        int n = 0;
        for (int which = 0; which < 7; which++) {
            row[n++] = x.count(which);
        }
        for (int key = 0; key < 32; key++) {
            row[n++] = x.get(key);
            row[n++] = x.holder(key);
            for (int transaction = 0; transaction < 3; transaction++) {
                row[n++] = x.seen(transaction, key);
            }
        }
        for (int sector = 0; sector < 16; sector++) {
            row[n++] = x.sound(sector) ? 1 : 0;
        }
        return row;
    }

    private static int[] bytes(StoreLog3 x, int from) {
        int[] row = new int[8 * 32];
        for (int i = 0; i < row.length; i++) {
            row[i] = x.at(from + i / 32, i % 32);
        }
        return row;
    }

    /** Shows the entries that had come together. */
    private static int[] synced(StoreLog3 x, int from) {
        x.sync();
        return bytes(x, from);
    }

    /** Shows the writes that waited. */
    private static int[] cutWithAll(StoreLog3 x, int from) {
        x.cut(Math.max(0, x.count(2)), 0);
        return bytes(x, from);
    }

    private static int[] startedAfterCut(StoreLog3 x) {
        x.cut(Math.max(0, x.count(2)), 0);
        x.start();
        return answers(x);
    }

    /** Brings to light what only a later call would show. */
    private static int[] goingOn(StoreLog3 x) {
        x.start();
        int begun = x.begin();
        int put = x.put(0, 31, 5);
        int committed = x.commit(0) * 10000 + x.undo(1) * 100 + x.commit(2);
        int ended = x.commit(begun);
        int pages = x.checkpoint();
        int synced = x.sync();
        int[] row = Arrays.copyOf(answers(x), 300);
        System.arraycopy(new int[] {begun, put, committed, ended, pages, synced}, 0, row, 290, 6);
        return row;
    }

    private static StoreLog3 fresh() {
        return new StoreLog3(16);
    }

    /** Committed and held keys, on the disk, waiting and in entries; transaction 2 is not open. */
    private static StoreLog3 busy() {
        StoreLog3 x = Scenes.withKeys(16, 7);
        x.checkpoint();
        x.sync();
        x.begin();
        x.begin();
        x.put(0, 1, 111);
        x.put(1, 2, NONE);
        x.put(0, 20, 2020);
        x.sync();
        x.put(0, 3, 333);
        x.put(1, 21, 2121);
        x.put(1, 21, 2122);
        x.put(0, 4, NONE);
        x.put(0, 1, 112);
        x.put(1, 22, 2222);
        return x;
    }

    private static StoreLog3 allOpen() {
        StoreLog3 x = busy();
        x.begin();
        return x;
    }

    private static StoreLog3 full() {
        StoreLog3 x = Scenes.full(16, 3);
        x.begin();
        return x;
    }

    /** None is open, an entry has come together, one sector is left. */
    private static StoreLog3 nearlyFull() {
        StoreLog3 x = Scenes.closed(16, 14);
        x.begin();
        x.undo(0);
        return x;
    }

    private static StoreLog3 down() {
        StoreLog3 x = busy();
        x.cut(1, 20);
        return x;
    }

    private static StoreLog3 broken() {
        StoreLog3 x = Scenes.waiting(16, 3, 1);
        x.sync();
        x.poke(0, 9, 1);
        x.cut(0, 0);
        return x;
    }

    /** The refused calls' answers, and that nothing differs from a store that was never asked. */
    @SafeVarargs
    private static void refused(String state, Supplier<StoreLog3> scene, int want, ToIntFunction<StoreLog3>... calls) {
        for (View view : VIEWS) {
            StoreLog3 asked = scene.get();
            for (int n = 0; n < calls.length; n++) {
                due(state + ", call " + n, calls[n].applyAsInt(asked), want);
            }
            int[] got = view.of(asked);
            int[] due = view.of(scene.get());
            int place = Arrays.mismatch(got, due);
            due(state + ", something changed", place < 0 ? 0 : got[place], place < 0 ? 0 : due[place]);
        }
    }

    private static void callsWhileDown() {
        checks.about(10, "Calls but start(), at(), sound(), poke(), format() answer DOWN while the store is down.");
        StoreLog3[] stores = {Scenes.down(16), down(), broken()};
        for (StoreLog3 x : stores) {
            due("begin", x.begin(), DOWN);
            due("sync", x.sync(), DOWN);
            due("checkpoint", x.checkpoint(), DOWN);
            for (int a : ARGUMENTS) {
                due("put of " + a, x.put(a, 0, 0), DOWN);
                due("put at " + a, x.put(0, a, 0), DOWN);
                due("put to " + a, x.put(0, 0, a), DOWN);
                due("commit " + a, x.commit(a), DOWN);
                due("undo " + a, x.undo(a), DOWN);
                due("get " + a, x.get(a), DOWN);
                due("seen by " + a, x.seen(a, 0), DOWN);
                due("seen at " + a, x.seen(0, a), DOWN);
                due("cut of " + a, x.cut(a, 0), DOWN);
                due("cut at " + a, x.cut(0, a), DOWN);
                due("count " + a, x.count(a), DOWN);
                due("count 7 - " + a, x.count(7 - a), DOWN);
                due("holder " + a, x.holder(a), DOWN);
            }
        }
    }

    private static void callsButThose() {
        checks.about(11, "Calls but start(), at(), sound(), poke(), format() answer DOWN while the store is down.");
        StoreLog3 x = Scenes.down(16);
        due("at", x.at(0, 0), 2);
        due("at, none such", x.at(16, 0), NONE);
        due("sound", x.sound(0) ? 1 : 0, 1);
        due("sound, none such", x.sound(16) ? 1 : 0, 0);
        due("poke", x.poke(0, 0, 1) ? 1 : 0, 1);
        due("poke, none such", x.poke(0, 0, 256) ? 1 : 0, 0);
        due("changed", x.at(0, 0), 3);
        due("sound no more", x.sound(0) ? 1 : 0, 0);
        due("start", x.start(), BROKEN);
        due("format", x.format(), 0);
        due("runs", x.begin(), 0);
    }

    private static void refusedBegin() {
        checks.about(2, "A call that is refused changes nothing.");
        refused("all open", RefusalTest::allOpen, NONE, x -> x.begin());
    }

    private static void refusedPut() {
        checks.about(3, "A call that is refused changes nothing.");
        refused("held", RefusalTest::busy, 0, x -> x.put(0, 2, 5), x -> x.put(1, 1, NONE), x -> x.put(1, 20, 2020));
        refused("not open", RefusalTest::busy, NONE, x -> x.put(2, 0, 5), x -> x.put(-1, 0, 5), x -> x.put(3, 0, 5),
                x -> x.put(Scenes.MOST, 0, 5), x -> x.put(2, 1, 5), x -> x.put(32, 0, 5));
        refused("no key", RefusalTest::busy, NONE, x -> x.put(0, -1, 5), x -> x.put(0, 32, 5), x -> x.put(0, Scenes.LEAST, 5));
        refused("no value", RefusalTest::busy, NONE, x -> x.put(0, 0, -2), x -> x.put(0, 1, 16777216),
                x -> x.put(0, 0, Scenes.MOST));
        refused("full", RefusalTest::full, FULL, x -> x.put(0, 0, 5), x -> x.put(0, 9, 5), x -> x.put(1, 9, NONE));
        refused("full and held", RefusalTest::full, 0, x -> x.put(1, 0, 5));
    }

    private static void refusedEnds() {
        checks.about(4, "A call that is refused changes nothing.");
        refused("commit, not open", RefusalTest::busy, NONE, x -> x.commit(2), x -> x.commit(-1), x -> x.commit(3),
                x -> x.commit(32), x -> x.commit(Scenes.MOST));
        refused("commit, full", RefusalTest::full, FULL, x -> x.commit(0), x -> x.commit(1));
        checks.about(5, "A call that is refused changes nothing.");
        refused("undo, not open", RefusalTest::busy, NONE, x -> x.undo(2), x -> x.undo(-1), x -> x.undo(3),
                x -> x.undo(32), x -> x.undo(Scenes.LEAST));
        refused("undo, full", RefusalTest::full, FULL, x -> x.undo(0), x -> x.undo(1));
    }

    private static void refusedSync() {
        checks.about(8, "A call that is refused changes nothing.");
        refused("full", RefusalTest::full, FULL, x -> x.sync(), x -> x.sync());
    }

    private static void refusedCheckpoint() {
        checks.about(9, "A call that is refused changes nothing.");
        refused("open", RefusalTest::busy, NONE, x -> x.checkpoint(), x -> x.checkpoint());
        refused("full and open", RefusalTest::full, NONE, x -> x.checkpoint());
        refused("one left", RefusalTest::nearlyFull, FULL, x -> x.checkpoint(), x -> x.checkpoint());
    }

    private static void refusedCut() {
        checks.about(10, "A call that is refused changes nothing.");
        refused("busy", RefusalTest::busy, NONE, x -> x.cut(-1, 0), x -> x.cut(x.count(2) + 1, 0), x -> x.cut(0, -1),
                x -> x.cut(1, 33), x -> x.cut(Scenes.MOST, Scenes.LEAST));
        refused("none waits", RefusalTest::fresh, NONE, x -> x.cut(1, 32), x -> x.cut(0, 33));
    }

    private static void refusedStart() {
        checks.about(11, "A call that is refused changes nothing.");
        refused("fresh", RefusalTest::fresh, NONE, x -> x.start());
        refused("busy", RefusalTest::busy, NONE, x -> x.start(), x -> x.start());
        refused("full", RefusalTest::full, NONE, x -> x.start());
        refused("broken", RefusalTest::broken, BROKEN, x -> x.start(), x -> x.start());
        for (View view : VIEWS) {
            int place = Arrays.mismatch(view.of(mended(true)), view.of(mended(false)));
            due("a start from a mended disk is not changed by broken ones", place, -1);
        }
    }

    private static StoreLog3 mended(boolean asked) {
        StoreLog3 x = broken();
        if (asked) {
            due("broken", x.start(), BROKEN);
        }
        x.poke(0, 9, 1);
        due("mended", x.start(), 1);
        return x;
    }

    private static void refusedLooks() {
        checks.about(14, "A call that is refused changes nothing.");
        refused("poke", RefusalTest::busy, 0, x -> x.poke(0, 0, 0) ? 1 : 0, x -> x.poke(0, 0, 256) ? 1 : 0,
                x -> x.poke(16, 0, 1) ? 1 : 0, x -> x.poke(0, 32, 1) ? 1 : 0, x -> x.poke(1, -1, 1) ? 1 : 0,
                x -> x.poke(-1, 31, 1) ? 1 : 0, x -> x.poke(15, 31, -1) ? 1 : 0);
        checks.about(7, "A call that is refused changes nothing.");
        refused("looks", RefusalTest::busy, NONE, x -> x.seen(2, 1), x -> x.seen(3, 1), x -> x.seen(0, 32),
                x -> x.get(32), x -> x.holder(-1), x -> x.count(7), x -> x.at(16, 0));
    }

    private static void refusedWhileDown() {
        checks.about(10, "A call that is refused changes nothing.");
        refused("down", RefusalTest::down, DOWN, x -> x.begin(), x -> x.put(0, 0, 0), x -> x.commit(0), x -> x.undo(1),
                x -> x.get(0), x -> x.seen(0, 0), x -> x.sync(), x -> x.checkpoint(), x -> x.cut(0, 32), x -> x.count(0),
                x -> x.holder(0));
        refused("broken", RefusalTest::broken, DOWN, x -> x.begin(), x -> x.put(0, 0, 0), x -> x.commit(0), x -> x.undo(0),
                x -> x.sync(), x -> x.checkpoint(), x -> x.cut(0, 0));
    }
}
