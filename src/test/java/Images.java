/** Bytes of sectors as the document tells them, made without the class that is tested. */
final class Images {
    static final int PUT = 0, GOES = 1, COMMIT = 2, UNDO = 3;

    private Images() {
    }

    /** Items are rows of transaction, what it does, key, value. */
    static int[] log(int sector, long serial, int[]... entries) {
        int[] image = head(1, serial, entries.length);
        for (int n = 0; n < entries.length; n++) {
            int[] entry = entries[n];
            image[6 + 5 * n] = 4 * entry[0] + entry[1];
            image[7 + 5 * n] = entry[2];
            value(image, 8 + 5 * n, entry[3]);
        }
        return sealed(sector, image);
    }

    /** Items are rows of key, value. */
    static int[] page(int sector, long serial, int page, int pages, int[]... pairs) {
        int[] image = head(2, serial, pairs.length);
        for (int n = 0; n < pairs.length; n++) {
            image[6 + 4 * n] = pairs[n][0];
            value(image, 7 + 4 * n, pairs[n][1]);
        }
        image[26] = page;
        image[27] = pages;
        return sealed(sector, image);
    }

    static int[] entry(int transaction, int what, int key, int value) {
        return new int[] {transaction, what, key, value};
    }

    static int[] pair(int key, int value) {
        return new int[] {key, value};
    }

    static int[] sealed(int sector, int[] image) {
        long s = sector + 1;
        for (int i = 0; i < 28; i++) {
            long x = s ^ image[i];
            long turned = (x * 2048) % 4294967296L + x / 2097152;
            s = Long.remainderUnsigned(turned * 2246822519L, 4294967296L);
        }
        for (int i = 0; i < 4; i++) {
            image[28 + i] = (int) (s >> 24 - 8 * i & 255);
        }
        return image;
    }

    /** Pokes an image into a sector that is as at first (asking for no byte, as calls are counted). */
    static void lay(StoreLog3 store, int sector, int[] image) {
        layOver(store, sector, sector == 0 ? page(0, 1, 0, 1) : new int[32], image);
    }

    static void layOver(StoreLog3 store, int sector, int[] old, int[] image) {
        for (int i = 0; i < 32; i++) {
            if (old[i] != image[i]) {
                store.poke(sector, i, old[i] ^ image[i]);
            }
        }
    }

    private static int[] head(int kind, long serial, int items) {
        int[] image = new int[32];
        image[0] = kind;
        for (int i = 0; i < 4; i++) {
            image[1 + i] = (int) (serial >> 24 - 8 * i & 255);
        }
        image[5] = items;
        return image;
    }

    private static void value(int[] image, int from, int value) {
        image[from] = value / 65536;
        image[from + 1] = value / 256 % 256;
        image[from + 2] = value % 256;
    }
}
