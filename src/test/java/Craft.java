/** Writes sectors of one's own making on a disk by pokes. */
final class Craft {
    private final PageDisk disk;
    private final int[][] there;

    /** For a disk that has all 0 where sectors are crafted: so no call is spent on looking. */
    Craft(PageDisk disk) {
        this.disk = disk;
        there = new int[disk.space(0)][64];
    }

    /** After the object wrote a sector itself. */
    void learn(int sector) {
        for (int at = 0; at < 64; at++) {
            there[sector][at] = disk.look(sector, at);
        }
    }

    void put(int sector, int[] bytes) {
        for (int at = 0; at < 64; at++) {
            int mask = there[sector][at] ^ bytes[at];
            if (mask != 0) {
                disk.poke(sector, at, mask);
            }
            there[sector][at] = bytes[at];
        }
    }

    void piece(int sector, int life, int name, int version, int... bytes) {
        put(sector, pieceBytes(sector, life, name, version, bytes));
    }

    void end(int sector, int life, int name, int version, int count) {
        put(sector, endBytes(sector, life, name, version, count));
    }

    void row(int sector, int life, int kind, long value) {
        put(sector, rowBytes(sector, life, kind, value));
    }

    void state(int sector, int life, int row, int state) {
        put(sector, stateBytes(sector, life, row, state));
    }

    void head(int sector, long generation, int used) {
        put(sector, headBytes(sector, generation, used));
    }

    static int[] pieceBytes(int sector, int life, int name, int version, int... bytes) {
        int[] s = begin(sector, life, 1, 4 + bytes.length);
        number(s, 6, 2, name);
        number(s, 8, 2, version);
        System.arraycopy(bytes, 0, s, 10, bytes.length);
        return sealed(s);
    }

    static int[] endBytes(int sector, int life, int name, int version, int count) {
        int[] s = begin(sector, life, 2, 6);
        number(s, 6, 2, name);
        number(s, 8, 2, version);
        number(s, 10, 2, count);
        return sealed(s);
    }

    static int[] rowBytes(int sector, int life, int kind, long value) {
        int[] s = begin(sector, life, 3, 9);
        s[6] = kind;
        number(s, 7, 8, value);
        return sealed(s);
    }

    static int[] stateBytes(int sector, int life, int row, int state) {
        int[] s = begin(sector, life, 4, 3);
        number(s, 6, 2, row);
        s[8] = state;
        return sealed(s);
    }

    static int[] headBytes(int sector, long generation, int used) {
        int[] s = begin(sector, 0, 9, 6);
        number(s, 6, 4, generation);
        number(s, 10, 2, used);
        return sealed(s);
    }

    static int[] begin(int sector, int life, int kind, int length) {
        int[] s = new int[64];
        number(s, 0, 2, sector);
        number(s, 2, 2, life);
        s[4] = kind;
        s[5] = length;
        return s;
    }

    static void number(int[] s, int at, int width, long value) {
        for (int i = 0; i < width; i++) {
            s[at + i] = (int) (value >>> 8 * (width - 1 - i)) & 255;
        }
    }

    static int[] sealed(int[] s) {
        number(s, 60, 4, sum(s));
        return s;
    }

    /** In longs and by a division of the turn, so that it is not the program's own way. */
    static long sum(int[] s) {
        long sum = 0;
        for (int at = 0; at < 60; at++) {
            long mixed = sum ^ s[at];
            long turned = mixed * 8192 % 4294967296L + mixed / 524288;
            sum = java.math.BigInteger.valueOf(turned).multiply(java.math.BigInteger.valueOf(3266489917L))
                .mod(java.math.BigInteger.valueOf(4294967296L)).longValue();
        }
        return sum;
    }
}
