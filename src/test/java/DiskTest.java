/** Promises 1, 7, 8, 15 to 18: the new object, syncs, cuts, wrong sectors, space, and the disk's bytes. */
public final class DiskTest {
    private static final Check CHECK = new Check();

    private static void newObjects() {
        int[][] sizes = {{8, 8}, {7, 8}, {0, 8}, {-5, 8}, {Integer.MIN_VALUE, 8}, {9, 9}, {160, 160}, {161, 160},
            {Integer.MAX_VALUE, 160}, {159, 159}};
        for (int[] size : sizes) {
            PageDisk disk = new PageDisk(size[0]);
            CHECK.space("new " + size[0], disk, size[1], 2, 0, 2, 0, 0, 0, 1, 0, 0);
            CHECK.same("the last byte", disk.look(size[1] - 1, 63), 0);
            CHECK.fails("a byte behind it", IndexOutOfBoundsException.class, () -> disk.look(size[1], 0));
            CHECK.fails("start", IllegalStateException.class, disk::start);
            CHECK.same("wrong(-1)", disk.wrong(-1), 0);
        }
    }

    private static void spaceOfOthers() {
        PageDisk disk = new PageDisk(20);
        int[] others = {-1, 10, 11, Integer.MIN_VALUE, Integer.MAX_VALUE};
        for (int what : others) {
            CHECK.fails("space(" + what + ")", IllegalArgumentException.class, () -> disk.space(what));
        }
        disk.cut(0, 0);
        for (int what : others) {
            CHECK.fails("shut: space(" + what + ")", IllegalArgumentException.class, () -> disk.space(what));
        }
    }

    private static void whatASyncWrites() {
        PageDisk disk = new PageDisk(160);
        CHECK.same("sync of nothing", disk.sync(), 0);
        disk.file(515);
        disk.append(515, (byte) -1);
        disk.append(515, (byte) 3);
        CHECK.same("sync of what is not written", disk.sync(), 0);
        CHECK.space("nothing", disk, 160, 2, 0, 2, 0, 0, 1, 1, 0, 0);
        disk.end(515);
        CHECK.same("sync", disk.sync(), 3);
        CHECK.space("synced", disk, 160, 4, 0, 4, 0, 1, 0, 1, 1, 0);
        CHECK.sector("piece", disk, 2, Craft.pieceBytes(2, 1, 515, 1, 255, 3));
        CHECK.sector("end", disk, 3, Craft.endBytes(3, 1, 515, 1, 2));
        CHECK.sector("head", disk, 1, Craft.headBytes(1, 1, 4));
        CHECK.sector("no head yet", disk, 0, new int[64]);
        CHECK.sector("nothing behind", disk, 4, new int[64]);
    }

    private static void headsInTurn() {
        PageDisk disk = new PageDisk(160);
        disk.row(200, -2);
        CHECK.same("what waits is not on the disk", disk.look(2, 4), 0);
        CHECK.same("sync 1", disk.sync(), 2);
        disk.state(0, 8);
        disk.row(1, 0x0102030405060708L);
        CHECK.same("sync 2", disk.sync(), 3);
        CHECK.sector("row", disk, 2, Craft.rowBytes(2, 1, 200, -2));
        CHECK.sector("state", disk, 3, Craft.stateBytes(3, 1, 0, 8));
        CHECK.sector("row", disk, 4, Craft.rowBytes(4, 1, 1, 0x0102030405060708L));
        CHECK.sector("head 2", disk, 0, Craft.headBytes(0, 2, 5));
        CHECK.sector("head 1", disk, 1, Craft.headBytes(1, 1, 3));
    }

    private static void writesOverForgottenOnes() {
        PageDisk disk = new PageDisk(20);
        disk.row(255, -1);
        disk.row(255, -1);
        disk.cut(1, 0);
        disk.start();
        disk.state(0, 3);
        disk.sync();
        CHECK.sector("what was forgotten leaves no byte", disk, 3, Craft.stateBytes(3, 2, 0, 3));
    }

    private static void syncsAndLives() {
        PageDisk disk = new PageDisk(160);
        disk.row(1, 1);
        CHECK.same("sync", disk.sync(), 2);
        CHECK.same("sync again", disk.sync(), 0);
        CHECK.same("generation", disk.space(8), 1);
        disk.cut(0, 0);
        CHECK.fails("sync when shut", IllegalStateException.class, disk::sync);
        disk.start();
        CHECK.same("life", disk.space(7), 2);
        disk.row(2, 2);
        CHECK.same("sync", disk.sync(), 2);
        CHECK.sector("the second life", disk, 3, Craft.rowBytes(3, 2, 2, 2));
        CHECK.sector("its head has life 0", disk, 0, Craft.headBytes(0, 2, 4));
        disk.cut(0, 0);
        disk.start();
        CHECK.same("life", disk.space(7), 3);
        disk.cut(0, 0);
        disk.start();
        CHECK.same("a life without writes is none", disk.space(7), 3);
    }

    private static void cutsThatThrow() {
        PageDisk disk = new PageDisk(20);
        disk.row(1, 1);
        CHECK.fails("cut(-1, 0)", IllegalArgumentException.class, () -> disk.cut(-1, 0));
        CHECK.fails("cut(MIN, 0)", IllegalArgumentException.class, () -> disk.cut(Integer.MIN_VALUE, 0));
        CHECK.fails("cut(0, -1)", IllegalArgumentException.class, () -> disk.cut(0, -1));
        CHECK.fails("cut(0, 64)", IllegalArgumentException.class, () -> disk.cut(0, 64));
        CHECK.space("as before", disk, 20, 3, 1, 2, 1, 0, 0, 1, 0, 0);
        CHECK.same("cut(MAX, 63)", disk.cut(Integer.MAX_VALUE, 63), 2);
        CHECK.fails("cut when shut", IllegalStateException.class, () -> disk.cut(0, 0));
        CHECK.fails("cut(-1, 0) when shut", IllegalArgumentException.class, () -> disk.cut(-1, 0));
        CHECK.fails("cut(0, 64) when shut", IllegalArgumentException.class, () -> disk.cut(0, 64));
        CHECK.space("shut", disk, 20, 2, 0, 2, 0, 0, 0, 0, 0, 1);
        CHECK.same("start", disk.start(), 0);
        CHECK.space("started", disk, 20, 3, 0, 3, 1, 0, 0, 2, 1, 0);
        CHECK.fails("start again", IllegalStateException.class, disk::start);
    }

    private static void tears() {
        for (int tear = 0; tear < 64; tear++) {
            PageDisk disk = new PageDisk(20);
            disk.row(255, -1);
            disk.row(254, -2);
            CHECK.same("cut(1, " + tear + ")", disk.cut(1, tear), 1);
            int[] due = new int[64];
            System.arraycopy(Craft.rowBytes(3, 1, 254, -2), 0, due, 0, tear);
            due[4] = tear > 0 ? 255 : 0;
            CHECK.sector("torn behind " + tear, disk, 3, due);
            CHECK.sector("whole", disk, 2, Craft.rowBytes(2, 1, 255, -1));
            CHECK.sector("no head", disk, 1, new int[64]);
            CHECK.same("start", disk.start(), 0);
            CHECK.space("one came", disk, 20, 3, 0, 2, 1, 0, 0, 2, 0, 0);
            CHECK.same("the torn one is not acknowledged, so not wrong", disk.wrong(-1), 0);
        }
    }

    private static void tornHead() {
        PageDisk disk = new PageDisk(20);
        disk.row(1, 1);
        disk.sync();
        disk.row(2, 2);
        disk.sync();
        disk.row(3, 3);
        CHECK.same("the row comes, the head is torn", disk.cut(1, 1), 1);
        int[] due = Craft.headBytes(1, 1, 3);
        due[4] = 255;
        CHECK.sector("torn head over the one that was there", disk, 1, due);
        disk.start();
        CHECK.space("head 2 tells", disk, 20, 5, 0, 4, 3, 0, 0, 2, 2, 0);
        disk.row(4, 4);
        CHECK.same("a head that does not come at all", disk.cut(1, 0), 1);
        disk.start();
        CHECK.space("head 2 tells still", disk, 20, 6, 0, 4, 4, 0, 0, 3, 2, 0);
        disk.row(5, 5);
        CHECK.same("keep fits just so", disk.cut(2, 63), 2);
        CHECK.sector("head 3", disk, 1, Craft.headBytes(1, 3, 7));
        disk.start();
        CHECK.space("head 3 tells", disk, 20, 7, 0, 7, 5, 0, 0, 4, 3, 0);
    }

    private static void cutsForget() {
        PageDisk disk = new PageDisk(20);
        disk.file(1);
        disk.append(1, (byte) 1);
        disk.row(1, 1);
        CHECK.same("nothing comes", disk.cut(0, 0), 0);
        CHECK.same("the disk has nothing", disk.look(2, 4), 0);
        CHECK.same("start", disk.start(), 0);
        CHECK.space("as new", disk, 20, 2, 0, 2, 0, 0, 0, 1, 0, 0);
        CHECK.same("the version was forgotten", disk.file(1), 1);
        CHECK.same("its bytes too", disk.end(1), 1);
        CHECK.same("size", disk.size(1, 1), 0);
        CHECK.same("one sector waits", disk.space(2), 1);
    }

    private static void spaceWhenShut() {
        PageDisk disk = new PageDisk(20);
        disk.row(1, 1);
        disk.sync();
        disk.file(1);
        disk.end(1);
        disk.file(2);
        CHECK.space("all kinds", disk, 20, 4, 1, 3, 1, 1, 1, 1, 1, 0);
        disk.cut(0, 0);
        CHECK.space("shut", disk, 20, 2, 0, 2, 0, 0, 0, 0, 0, 1);
        disk.start();
        CHECK.space("started", disk, 20, 3, 0, 3, 1, 0, 0, 2, 1, 0);
    }

    private static void pokesAndLooks() {
        PageDisk disk = new PageDisk(9);
        CHECK.same("poke(0, 0, 255)", disk.poke(0, 0, 255), 255);
        CHECK.same("poke(0, 0, 1)", disk.poke(0, 0, 1), 254);
        CHECK.same("look(0, 0)", disk.look(0, 0), 254);
        CHECK.same("poke(8, 63, 128)", disk.poke(8, 63, 128), 128);
        CHECK.same("look(8, 63)", disk.look(8, 63), 128);
        int[][] none = {{-1, 0}, {9, 0}, {0, -1}, {0, 64}, {Integer.MIN_VALUE, 0}, {Integer.MAX_VALUE, 63},
            {1 << 26, 0}, {0, Integer.MIN_VALUE}, {1, -64}};
        for (int[] byteOf : none) {
            String at = "(" + byteOf[0] + ", " + byteOf[1] + ")";
            CHECK.fails("look" + at, IndexOutOfBoundsException.class, () -> disk.look(byteOf[0], byteOf[1]));
            CHECK.fails("poke" + at, IndexOutOfBoundsException.class, () -> disk.poke(byteOf[0], byteOf[1], 1));
            CHECK.fails("poke 0" + at, IndexOutOfBoundsException.class, () -> disk.poke(byteOf[0], byteOf[1], 0));
        }
        CHECK.fails("mask 0", IllegalArgumentException.class, () -> disk.poke(0, 0, 0));
        CHECK.fails("mask 256", IllegalArgumentException.class, () -> disk.poke(0, 0, 256));
        CHECK.fails("mask -1", IllegalArgumentException.class, () -> disk.poke(0, 0, -1));
        CHECK.same("as before", disk.look(0, 0), 254);
        disk.row(1, 1);
        CHECK.same("a poke where a write waits", disk.poke(2, 6, 7), 7);
        disk.sync();
        CHECK.same("does not reach it", disk.look(2, 6), 1);
        disk.cut(0, 0);
        CHECK.same("a poke when shut", disk.poke(2, 6, 1), 0);
        CHECK.same("a look when shut", disk.look(2, 6), 0);
    }

    private static void wrongSectors() {
        PageDisk disk = new PageDisk(20);
        for (int i = 0; i < 5; i++) {
            disk.row(i, i);
        }
        disk.sync();
        disk.poke(5, 20, 1);
        disk.poke(3, 63, 128);
        CHECK.same("none before a start", disk.wrong(-1), 0);
        disk.cut(0, 0);
        CHECK.same("none when shut before a start", disk.wrong(-1), 0);
        CHECK.fails("wrong(0) then", IndexOutOfBoundsException.class, () -> disk.wrong(0));
        disk.start();
        for (int round = 0; round < 2; round++) {
            CHECK.same("how many", disk.wrong(-1), 2);
            CHECK.same("the first", disk.wrong(0), 3);
            CHECK.same("the second", disk.wrong(1), 5);
            CHECK.fails("the third", IndexOutOfBoundsException.class, () -> disk.wrong(2));
            CHECK.fails("wrong(-2)", IndexOutOfBoundsException.class, () -> disk.wrong(-2));
            CHECK.fails("wrong(MIN)", IndexOutOfBoundsException.class, () -> disk.wrong(Integer.MIN_VALUE));
            if (round == 0) {
                CHECK.same("rows", disk.space(4), 3);
                disk.cut(0, 0);
            }
        }
        disk.poke(5, 20, 1);
        disk.start();
        CHECK.same("how many in the next start", disk.wrong(-1), 1);
        CHECK.same("the first in the next start", disk.wrong(0), 3);
    }

    public static void main(String[] args) {
        newObjects();
        spaceOfOthers();
        whatASyncWrites();
        headsInTurn();
        writesOverForgottenOnes();
        syncsAndLives();
        cutsThatThrow();
        tears();
        tornHead();
        cutsForget();
        spaceWhenShut();
        pokesAndLooks();
        wrongSectors();
        CHECK.done();
    }
}
