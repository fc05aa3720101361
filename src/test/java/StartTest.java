/** Promise 9: what a start finds on disks of all kinds, most of them crafted byte by byte. */
public final class StartTest {
    private static final Check CHECK = new Check();

    private interface Change {
        void apply(int[] bytes);
    }

    /** A row in sector 2, then a crafted one in sector 3: whether a start takes it. */
    private static void judged(String what, boolean due, int[] crafted, Change change) {
        PageDisk disk = new PageDisk(20);
        Craft craft = new Craft(disk);
        craft.row(2, 5, 1, 1);
        change.apply(crafted);
        craft.put(3, Craft.sealed(crafted));
        disk.cut(0, 0);
        disk.start();
        CHECK.same(what + " is taken up to", disk.space(1), due ? 4 : 3);
    }

    private static void good(String what, int[] crafted, Change change) {
        judged(what, true, crafted, change);
    }

    private static void bad(String what, int[] crafted, Change change) {
        judged(what, false, crafted, change);
    }

    private static int[] piece() {
        return Craft.pieceBytes(3, 5, 1, 1, 7, 8);
    }

    private static int[] end() {
        return Craft.endBytes(3, 5, 1, 1, 0);
    }

    private static int[] row() {
        return Craft.rowBytes(3, 5, 1, 1);
    }

    private static int[] state() {
        return Craft.stateBytes(3, 5, 0, 1);
    }

    private static void numbersOfGoodSectors() {
        good("a piece", piece(), s -> { });
        good("a piece of 1 byte", piece(), s -> s[5] = 5);
        good("a piece of 50 bytes", piece(), s -> s[5] = 54);
        bad("a piece of 0 bytes", piece(), s -> s[5] = 4);
        bad("a piece of 51 bytes", piece(), s -> s[5] = 55);
        bad("a piece of 255 - 4 bytes", piece(), s -> s[5] = 255);
        good("name 999", piece(), s -> Craft.number(s, 6, 2, 999));
        bad("name 1000", piece(), s -> Craft.number(s, 6, 2, 1000));
        bad("name 65535", piece(), s -> Craft.number(s, 6, 2, 65535));
        good("version 9999", piece(), s -> Craft.number(s, 8, 2, 9999));
        bad("version 10000", piece(), s -> Craft.number(s, 8, 2, 10000));
        bad("version 0", piece(), s -> Craft.number(s, 8, 2, 0));
        good("an end", end(), s -> { });
        good("an end of 2000", end(), s -> Craft.number(s, 10, 2, 2000));
        bad("an end of 2001", end(), s -> Craft.number(s, 10, 2, 2001));
        bad("an end of version 0", end(), s -> Craft.number(s, 8, 2, 0));
        bad("an end of version 10000", end(), s -> Craft.number(s, 8, 2, 10000));
        bad("an end of name 1000", end(), s -> Craft.number(s, 6, 2, 1000));
        bad("an end with length 5", end(), s -> s[5] = 5);
        bad("an end with length 7", end(), s -> s[5] = 7);
        good("a row", row(), s -> { });
        good("a row of kind 255", row(), s -> s[6] = 255);
        bad("a row with length 8", row(), s -> s[5] = 8);
        bad("a row with length 10", row(), s -> s[5] = 10);
        good("a state", state(), s -> { });
        good("a state 9", state(), s -> s[8] = 9);
        bad("a state 10", state(), s -> s[8] = 10);
        good("a state of row 65535", state(), s -> Craft.number(s, 6, 2, 65535));
        bad("a state with length 2", state(), s -> s[5] = 2);
        bad("a state with length 4", state(), s -> s[5] = 4);
    }

    private static void kindsAndOtherBytes() {
        bad("kind 0", row(), s -> s[4] = 0);
        bad("kind 5", row(), s -> s[4] = 5);
        bad("kind 255", row(), s -> s[4] = 255);
        bad("a head behind sector 1", Craft.headBytes(3, 1, 3), s -> Craft.number(s, 2, 2, 5));
        bad("the number of another sector", row(), s -> s[1] = 4);
        bad("a number that is 256 too great", row(), s -> s[0] = 1);
        good("bytes behind the content that are not 0", row(), s -> s[59] = 1);
        good("bytes behind a state's", state(), s -> s[9] = 255);
        good("the same life", row(), s -> s[3] = 5);
        good("a greater life", row(), s -> s[3] = 6);
        good("the greatest life", row(), s -> Craft.number(s, 2, 2, 65535));
        bad("a lower life", row(), s -> s[3] = 4);
        bad("life 0 behind another", row(), s -> s[3] = 0);
    }

    private static void sumsOfEachByte() {
        for (int at = 0; at < 64; at++) {
            PageDisk disk = new PageDisk(20);
            disk.row(1, 1);
            disk.row(2, 2);
            disk.sync();
            disk.poke(2, at, 1 << at % 8);
            disk.cut(0, 0);
            disk.start();
            CHECK.same("sector 2 with byte " + at + " altered: wrong", disk.wrong(-1), 1);
            CHECK.same("rows left", disk.space(4), 1);
            CHECK.same("the row left", disk.job(0, 1), 2);
        }
    }

    private static void heads(String what, int[] first, int[] second, int acknowledged, int generation) {
        PageDisk disk = new PageDisk(20);
        Craft craft = new Craft(disk);
        craft.put(0, first);
        craft.put(1, second);
        disk.cut(0, 0);
        disk.start();
        CHECK.same(what + ": acknowledged", disk.space(3), acknowledged);
        CHECK.same(what + ": up to the end", disk.space(1), acknowledged);
        CHECK.same(what + ": generation", disk.space(8), generation);
        CHECK.same(what + ": wrong", disk.wrong(-1), acknowledged - 2);
        disk.row(1, 1);
        disk.sync();
        CHECK.same(what + ": next generation", disk.space(8), (generation + 1) % 1000000000);
        CHECK.same(what + ": its sector", disk.look((generation + 1) % 2, 11), acknowledged + 1);
    }

    private static int[] head(int sector, long generation, int used) {
        return Craft.headBytes(sector, generation, used);
    }

    private static int[] changed(int[] bytes, int at, int value) {
        bytes[at] = value;
        return Craft.sealed(bytes);
    }

    private static void whichHeadTells() {
        int[] none = new int[64];
        heads("none", none, none, 2, 0);
        heads("sector 0 alone", head(0, 6, 5), none, 5, 6);
        heads("sector 1 alone", none, head(1, 7, 6), 6, 7);
        heads("sector 1 greater", head(0, 6, 5), head(1, 7, 6), 6, 7);
        heads("sector 0 greater", head(0, 8, 5), head(1, 7, 6), 5, 8);
        heads("the same", head(0, 7, 5), head(1, 7, 6), 5, 7);
        heads("any generation in any sector", head(0, 7, 5), none, 5, 7);
        heads("generation 0", head(0, 0, 4), none, 4, 0);
        heads("generation 0 in sector 1", none, head(1, 0, 4), 4, 0);
        heads("the last generation", none, head(1, 999999999, 4), 4, 999999999);
        heads("the last one is greater than 0", head(0, 0, 5), head(1, 999999999, 4), 4, 999999999);
        heads("a generation too great", head(0, 3, 5), head(1, 1000000000, 4), 5, 3);
        heads("a generation of all bits", head(0, 3, 5), head(1, 0xFFFFFFFFL, 4), 5, 3);
        heads("2 used", head(0, 3, 5), head(1, 4, 2), 2, 4);
        heads("1 used", head(0, 3, 5), head(1, 4, 1), 5, 3);
        heads("more used than all", head(0, 3, 5), head(1, 4, 21), 5, 3);
        heads("256 + 2 used", head(0, 3, 5), head(1, 4, 258), 5, 3);
        heads("length 5", head(0, 3, 5), changed(head(1, 4, 6), 5, 5), 5, 3);
        heads("kind 8", head(0, 3, 5), changed(head(1, 4, 6), 4, 8), 5, 3);
        heads("another number", head(0, 3, 5), changed(head(1, 4, 6), 1, 0), 5, 3);
        heads("any life", head(0, 3, 5), changed(head(1, 4, 6), 3, 9), 6, 4);
        heads("any other byte", head(0, 3, 5), changed(head(1, 4, 6), 30, 9), 6, 4);
        heads("an end of a file is no head", head(0, 3, 5), Craft.endBytes(1, 0, 0, 4, 6), 5, 3);
        int[] spoilt = head(1, 4, 6);
        spoilt[63] ^= 1;
        heads("a wrong sum", head(0, 3, 5), spoilt, 5, 3);
    }

    private static void allUsed() {
        PageDisk disk = new PageDisk(20);
        Craft craft = new Craft(disk);
        craft.head(1, 1, 20);
        craft.row(10, 1, 1, 77);
        disk.cut(0, 0);
        disk.start();
        CHECK.space("all are acknowledged", disk, 20, 20, 0, 20, 1, 0, 0, 2, 1, 0);
        CHECK.same("all but one are wrong", disk.wrong(-1), 17);
        CHECK.same("the last before it", disk.wrong(7), 9);
        CHECK.same("the first behind it", disk.wrong(8), 11);
        CHECK.same("the last", disk.wrong(16), 19);
        CHECK.same("the row", disk.job(0, 1), 77);
        CHECK.same("no room", disk.row(1, 1), -1);
    }

    private static void livesInOrder() {
        PageDisk disk = new PageDisk(20);
        Craft craft = new Craft(disk);
        craft.head(1, 1, 7);
        craft.row(2, 5, 1, 10);
        craft.row(3, 3, 1, 20);
        craft.row(4, 4, 1, 30);
        craft.row(5, 7, 1, 40);
        craft.row(6, 5, 1, 50);
        craft.row(7, 7, 1, 60);
        craft.row(8, 6, 1, 70);
        craft.row(9, 9, 1, 80);
        disk.cut(0, 0);
        disk.start();
        CHECK.space("taken", disk, 20, 8, 0, 7, 3, 0, 0, 8, 1, 0);
        CHECK.same("wrong", disk.wrong(-1), 3);
        CHECK.same("below the last one", disk.wrong(0), 3);
        CHECK.same("below the last one that was taken", disk.wrong(1), 4);
        CHECK.same("below again", disk.wrong(2), 6);
        CHECK.same("row 1", disk.job(1, 1), 40);
        CHECK.same("row 2, behind the acknowledged", disk.job(2, 1), 60);
    }

    private static void lives(int life, int due) {
        PageDisk disk = new PageDisk(20);
        new Craft(disk).row(2, life, 1, 1);
        disk.cut(0, 0);
        disk.start();
        CHECK.same("life behind " + life, disk.space(7), due);
        disk.row(1, 1);
        disk.sync();
        CHECK.same("its bytes", disk.look(3, 2) * 256 + disk.look(3, 3), due);
    }

    private static void oldSectorsBehindTheEnd() {
        PageDisk disk = new PageDisk(20);
        disk.row(1, 10);
        disk.row(1, 20);
        disk.row(1, 30);
        CHECK.same("three came without a head", disk.cut(3, 0), 3);
        disk.poke(3, 20, 1);
        disk.start();
        CHECK.space("the end is where the first is not good", disk, 20, 3, 0, 2, 1, 0, 0, 2, 0, 0);
        disk.row(1, 40);
        disk.sync();
        disk.cut(0, 0);
        disk.start();
        CHECK.space("the old one behind is of an older life", disk, 20, 4, 0, 4, 2, 0, 0, 3, 1, 0);
        CHECK.same("row 1", disk.job(1, 1), 40);
        CHECK.same("none is wrong", disk.wrong(-1), 0);
    }

    private static void versionsThatWereMet() {
        PageDisk disk = new PageDisk(30);
        disk.file(1);
        for (int i = 0; i < 60; i++) {
            disk.append(1, (byte) i);
        }
        disk.sync();
        disk.poke(2, 10, 1);
        disk.cut(0, 0);
        disk.start();
        CHECK.same("a wrong sector was not read", disk.file(1), 1);
        disk.append(1, (byte) 99);
        disk.end(1);
        disk.sync();
        CHECK.same("size", disk.size(1, 1), 1);
        CHECK.same("its byte is not that of the wrong sector", disk.at(1, 1, 0), 99);
        disk.poke(2, 10, 1);
        disk.cut(0, 0);
        CHECK.same("with the old piece it is torn", disk.start(), 0);
        CHECK.same("size then", disk.size(1, 1), -2);
        CHECK.same("the next version", disk.file(1), 2);
    }

    private static void versionsOfTheLatestStartAlone() {
        PageDisk disk = new PageDisk(30);
        Craft craft = new Craft(disk);
        craft.end(2, 1, 4, 30, 0);
        craft.end(3, 1, 4, 20, 0);
        disk.cut(0, 0);
        CHECK.same("both", disk.start(), 2);
        CHECK.same("latest of both", disk.latest(4), 30);
        disk.poke(2, 63, 1);
        disk.cut(0, 0);
        CHECK.same("none: the first is the end", disk.start(), 0);
        CHECK.same("latest of none", disk.latest(4), 0);
        CHECK.same("no name", disk.folder(0), -1);
        craft.learn(2);
        craft.end(2, 1, 6, 7, 0);
        disk.cut(0, 0);
        CHECK.same("two again", disk.start(), 2);
        CHECK.same("latest(4)", disk.latest(4), 20);
        CHECK.same("latest(6)", disk.latest(6), 7);
        CHECK.same("an old version", disk.size(4, 30), -1);
        CHECK.same("the first name", disk.folder(0), 4);
        CHECK.same("the second name", disk.folder(1), 6);
    }

    private static void endedAlready() {
        PageDisk disk = new PageDisk(30);
        Craft craft = new Craft(disk);
        craft.piece(2, 1, 4, 2, 11, 12);
        craft.piece(3, 1, 5, 1, 13);
        craft.piece(4, 1, 4, 2, 14);
        craft.end(5, 1, 4, 2, 3);
        craft.piece(6, 1, 4, 2, 15);
        craft.end(7, 1, 4, 2, 4);
        craft.end(8, 1, 5, 1, 0);
        craft.piece(9, 1, 5, 1, 16);
        craft.end(10, 1, 5, 1, 1);
        disk.cut(0, 0);
        CHECK.same("whole", disk.start(), 1);
        CHECK.same("size of a whole one", disk.size(4, 2), 3);
        CHECK.same("byte 0", disk.at(4, 2, 0), 11);
        CHECK.same("byte 1", disk.at(4, 2, 1), 12);
        CHECK.same("byte 2", disk.at(4, 2, 2), 14);
        CHECK.fails("byte 3", ArrayIndexOutOfBoundsException.class, () -> disk.at(4, 2, 3));
        CHECK.same("a torn one stays torn", disk.size(5, 1), -2);
        CHECK.same("whole versions", disk.space(5), 1);
    }

    /** 40 pieces of 50 bytes fill a version; all of them are 0, so that 512 calls are enough to craft them. */
    private static void manyBytes(int lastPiece, int told, int due) {
        PageDisk disk = new PageDisk(60);
        Craft craft = new Craft(disk);
        for (int i = 0; i < 40; i++) {
            craft.piece(2 + i, 0, 0, 1, new int[50]);
        }
        int next = 42;
        if (lastPiece > 0) {
            craft.piece(next, 0, 0, 1, new int[lastPiece]);
            next++;
        }
        craft.end(next, 0, 0, 1, told);
        disk.cut(0, 0);
        disk.start();
        String what = (2000 + lastPiece) + " bytes, " + told + " told";
        CHECK.same(what + ": size", disk.size(0, 1), due);
        CHECK.same(what + ": latest", disk.latest(0), 1);
        CHECK.same(what + ": up to the end", disk.space(1), next + 1);
        CHECK.same(what + ": life", disk.space(7), 1);
    }

    private static void tornAtOnce() {
        PageDisk disk = new PageDisk(60);
        Craft craft = new Craft(disk);
        for (int i = 0; i < 41; i++) {
            craft.piece(2 + i, 0, 0, 1, new int[50]);
        }
        disk.cut(0, 0);
        CHECK.same("start", disk.start(), 0);
        CHECK.same("2050 bytes are torn without an end", disk.size(0, 1), -2);
        CHECK.same("latest", disk.latest(0), 1);
    }

    public static void main(String[] args) {
        numbersOfGoodSectors();
        kindsAndOtherBytes();
        sumsOfEachByte();
        whichHeadTells();
        allUsed();
        livesInOrder();
        lives(0, 1);
        lives(1, 2);
        lives(65534, 65535);
        lives(65535, 65535);
        oldSectorsBehindTheEnd();
        versionsThatWereMet();
        versionsOfTheLatestStartAlone();
        endedAlready();
        manyBytes(0, 2000, 2000);
        manyBytes(0, 1999, -2);
        manyBytes(1, 2000, -2);
        tornAtOnce();
        CHECK.done();
    }
}
