/** The sentences of "Terms" on START and on what is TAKEN, each with its own test. */
public final class TermsOfStartTest {
    private static final Check CHECK = new Check();

    private static void heads(String what, int acknowledged, int generation, int[] first, int[] second) {
        PageDisk disk = Given.started(20, craft -> {
            craft.put(0, first);
            craft.put(1, second);
        });
        CHECK.same(what + ": acknowledged", disk.space(3), acknowledged);
        CHECK.same(what + ": generation", disk.space(8), generation);
        CHECK.same(what + ": wrong ones", disk.wrong(-1), acknowledged - 2);
    }

    private static int[] head(int sector, int generation, int used) {
        return Craft.headBytes(sector, generation, used);
    }

    private static int[] spoilt(int[] bytes, int at) {
        bytes[at] ^= 1;
        return bytes;
    }

    private static void greaterGeneration() {
        heads("the first is greater", 5, 8, head(0, 8, 5), head(1, 7, 9));
        heads("the second is greater", 9, 7, head(0, 6, 5), head(1, 7, 9));
        heads("the greater one tells fewer", 3, 7, head(0, 6, 5), head(1, 7, 3));
        heads("far apart", 5, 999999999, head(0, 999999999, 5), head(1, 1, 9));
        heads("the last one and 0", 9, 999999999, head(0, 0, 5), head(1, 999999999, 9));
        heads("0 and the last one", 5, 999999999, head(0, 999999999, 5), head(1, 0, 9));
        PageDisk wrapped = Given.started(20, craft -> craft.head(1, 999999999, 2));
        wrapped.row(1, 1);
        wrapped.sync();
        CHECK.same("generation 0 is written", wrapped.space(8), 0);
        wrapped.cut(0, 0);
        wrapped.start();
        CHECK.space("but the last one is greater", wrapped, 20, 3, 0, 2, 1, 0, 0, 2, 999999999, 0);
    }

    private static void goodHeads() {
        heads("the greater one is not good", 5, 6, head(0, 6, 5), spoilt(head(1, 7, 9), 30));
        heads("the lower one is not good", 9, 7, spoilt(head(0, 6, 5), 60), head(1, 7, 9));
        heads("the first alone", 5, 6, head(0, 6, 5), new int[64]);
        heads("the second alone", 9, 7, new int[64], head(1, 7, 9));
        heads("0 alone", 5, 0, head(0, 0, 5), new int[64]);
        heads("0 in the second alone", 9, 0, new int[64], head(1, 0, 9));
        heads("a row in a head's place", 5, 6, head(0, 6, 5), Craft.rowBytes(1, 1, 1, 1));
    }

    private static void sameGeneration() {
        heads("both 7", 5, 7, head(0, 7, 5), head(1, 7, 9));
        heads("both 7, the first tells more", 9, 7, head(0, 7, 9), head(1, 7, 5));
        heads("both 0", 5, 0, head(0, 0, 5), head(1, 0, 9));
        heads("both the last one", 5, 999999999, head(0, 999999999, 5), head(1, 999999999, 9));
        heads("both 7, the first not good", 9, 7, spoilt(head(0, 7, 5), 63), head(1, 7, 9));
    }

    private static void withoutAHead() {
        heads("none", 2, 0, new int[64], new int[64]);
        heads("none is good", 2, 0, spoilt(head(0, 6, 5), 4), spoilt(head(1, 7, 9), 11));
        heads("2 told", 2, 7, head(0, 6, 5), head(1, 7, 2));
        heads("all told", 20, 7, head(0, 6, 5), head(1, 7, 20));
        PageDisk written = Given.rows(20, 3);
        written.sync();
        written.poke(1, 63, 1);
        written.poke(2, 63, 1);
        written.cut(0, 0);
        written.start();
        CHECK.space("without its head nothing is acknowledged", written, 20, 2, 0, 2, 0, 0, 0, 1, 0, 0);
        CHECK.same("so nothing is wrong", written.wrong(-1), 0);
    }

    private static void fromSectorTwoOn() {
        PageDisk disk = Given.started(8, craft -> {
            craft.row(0, 9, 1, 10);
            craft.row(1, 9, 1, 20);
            craft.row(2, 3, 1, 30);
            craft.row(3, 3, 1, 40);
        });
        CHECK.space("two rows", disk, 8, 4, 0, 2, 2, 0, 0, 4, 0, 0);
        CHECK.same("the first is in sector 2", disk.job(0, 1), 30);
        CHECK.same("the second is in sector 3", disk.job(1, 1), 40);
        PageDisk heads = Given.started(8, craft -> craft.head(1, 1, 4));
        CHECK.same("a missing head is no wrong sector", heads.wrong(-1), 2);
        CHECK.same("the first wrong one is sector 2", heads.wrong(0), 2);
    }

    private static void takenKinds() {
        PageDisk disk = Given.started(20, craft -> {
            craft.piece(2, 1, 1, 1, 7);
            craft.end(3, 1, 1, 1, 1);
            craft.row(4, 1, 1, 1);
            craft.state(5, 1, 0, 3);
            craft.head(6, 1, 7);
        });
        CHECK.space("kinds 1 to 4", disk, 20, 6, 0, 2, 1, 1, 0, 2, 0, 0);
    }

    /** Rows of these lives from sector 2 on: which of them a start takes, told by their values. */
    private static void lives(String what, int used, int[] lives, int end, int... taken) {
        PageDisk disk = Given.started(20, craft -> {
            craft.head(0, 2, used);
            for (int i = 0; i < lives.length; i++) {
                craft.row(2 + i, lives[i], 1, 2 + i);
            }
        });
        CHECK.same(what + ": up to the end", disk.space(1), end);
        CHECK.same(what + ": rows", disk.space(4), taken.length);
        for (int i = 0; i < taken.length && i < disk.space(4); i++) {
            CHECK.same(what + ": row " + i, disk.job(i, 1), taken[i]);
        }
        CHECK.same(what + ": wrong ones", disk.wrong(-1), end - 2 - taken.length);
    }

    private static void takenLives() {
        lives("the same", 2, new int[] {5, 5}, 4, 2, 3);
        lives("one above", 2, new int[] {5, 6}, 4, 2, 3);
        lives("one below", 2, new int[] {5, 4}, 3, 2);
        lives("0 at first", 2, new int[] {0, 0, 1}, 5, 2, 3, 4);
        lives("0 behind 1", 2, new int[] {1, 0}, 3, 2);
        lives("the greatest", 2, new int[] {65535, 65535}, 4, 2, 3);
        lives("below the greatest", 2, new int[] {65535, 65534}, 3, 2);
        lives("256 behind 255", 2, new int[] {255, 256}, 4, 2, 3);
        lives("255 behind 256", 2, new int[] {256, 255}, 3, 2);
        lives("acknowledged, one below", 5, new int[] {5, 4, 5}, 5, 2, 4);
        lives("acknowledged, below the last that was taken", 6, new int[] {5, 3, 4, 5}, 6, 2, 5);
        lives("acknowledged, the life of one that is behind", 5, new int[] {5, 9, 7}, 5, 2, 3);
    }

    private static void wrongOnes() {
        PageDisk disk = Given.rows(20, 6);
        disk.sync();
        disk.poke(2, 1, 4);
        disk.poke(4, 3, 3);
        disk.poke(7, 63, 255);
        disk.cut(0, 0);
        disk.start();
        CHECK.space("three are left", disk, 20, 8, 0, 8, 3, 0, 0, 2, 1, 0);
        CHECK.same("wrong ones", disk.wrong(-1), 3);
        CHECK.same("the first one", disk.wrong(0), 2);
        CHECK.same("one between", disk.wrong(1), 4);
        CHECK.same("the last one", disk.wrong(2), 7);
        CHECK.same("row 0", disk.job(0, 1), 1);
        CHECK.same("row 1", disk.job(1, 1), 3);
        CHECK.same("row 2", disk.job(2, 1), 4);
        PageDisk all = Given.started(20, craft -> craft.head(1, 1, 20));
        CHECK.same("all are wrong", all.wrong(-1), 18);
        CHECK.same("the last of all", all.wrong(17), 19);
        CHECK.same("up to the end", all.space(1), 20);
        CHECK.same("no room is left", all.row(1, 1), -1);
    }

    private static void theEnd() {
        PageDisk disk = Given.started(20, craft -> {
            craft.head(1, 1, 4);
            craft.row(2, 1, 1, 10);
            craft.row(4, 1, 1, 20);
            craft.row(6, 1, 1, 30);
        });
        CHECK.same("sector 3 is wrong", disk.wrong(0), 3);
        CHECK.same("the only one", disk.wrong(-1), 1);
        CHECK.same("sector 4 is taken, sector 5 is the end", disk.space(1), 5);
        CHECK.same("rows", disk.space(4), 2);
        disk.row(1, 40);
        disk.sync();
        CHECK.sector("writing goes on", disk, 5, Craft.rowBytes(5, 2, 1, 40));
        CHECK.same("what was behind is there", disk.look(6, 4), 3);
        disk.cut(0, 0);
        disk.start();
        CHECK.same("but is not taken: its life is below", disk.space(1), 6);
        PageDisk heads = Given.started(8, craft -> {
            craft.row(2, 1, 1, 1);
            craft.head(3, 1, 3);
            craft.row(4, 1, 1, 1);
        });
        CHECK.same("a head's kind is another one", heads.space(1), 3);
    }

    private static void theEndOfAnEmptyOrFullDisk() {
        PageDisk empty = Given.started(8, craft -> { });
        CHECK.same("an empty disk ends at once", empty.space(1), 2);
        PageDisk full = Given.rows(8, 6);
        full.cut(6, 0);
        full.start();
        CHECK.space("a full disk has no other one", full, 8, 8, 0, 2, 6, 0, 0, 2, 0, 0);
        PageDisk lastButOne = Given.rows(8, 6);
        lastButOne.cut(5, 63);
        lastButOne.start();
        CHECK.same("the last sector is the end", lastButOne.space(1), 7);
        CHECK.same("writing goes on in it", lastButOne.row(1, 1), 5);
        CHECK.same("and it is full", lastButOne.row(1, 1), -1);
    }

    private static void life(String what, int due, Given.Crafting crafting) {
        CHECK.same(what, Given.started(20, crafting).space(7), due);
    }

    private static void nextLife() {
        life("behind 1", 2, craft -> craft.row(2, 1, 1, 1));
        life("behind 0", 1, craft -> craft.row(2, 0, 1, 1));
        life("behind 255", 256, craft -> craft.row(2, 255, 1, 1));
        life("behind 3 and 7", 8, craft -> {
            craft.row(2, 3, 1, 1);
            craft.row(3, 7, 1, 1);
        });
        life("behind 3, with a wrong one of 9", 4, craft -> {
            craft.head(0, 2, 4);
            craft.row(2, 3, 1, 1);
            craft.put(3, spoilt(Craft.rowBytes(3, 9, 1, 1), 40));
        });
        life("behind 3, with one of 9 behind the end", 4, craft -> {
            craft.row(2, 3, 1, 1);
            craft.row(4, 9, 1, 1);
        });
        life("behind a head's life", 1, craft -> {
            int[] bytes = Craft.headBytes(0, 2, 2);
            Craft.number(bytes, 2, 2, 77);
            craft.put(0, Craft.sealed(bytes));
        });
    }

    private static void firstAndLastLife() {
        life("behind 65534", 65535, craft -> craft.row(2, 65534, 1, 1));
        life("behind 65535", 65535, craft -> craft.row(2, 65535, 1, 1));
        life("behind none", 1, craft -> { });
        life("behind wrong ones alone", 1, craft -> craft.head(0, 2, 9));
        PageDisk last = Given.started(8, craft -> craft.row(2, 65535, 1, 1));
        last.row(1, 2);
        last.sync();
        last.cut(0, 0);
        last.start();
        CHECK.same("rows of the last life", last.space(4), 2);
        CHECK.same("which stays", last.space(7), 65535);
        PageDisk lost = Given.rows(8, 1);
        lost.sync();
        lost.cut(0, 0);
        lost.start();
        lost.poke(2, 63, 1);
        lost.cut(0, 0);
        lost.start();
        CHECK.same("lives are not remembered", lost.space(7), 1);
    }

    private static void takenPieces() {
        PageDisk disk = Given.started(30, craft -> {
            craft.piece(2, 1, 4, 2, 11);
            craft.piece(3, 1, 4, 3, 21);
            craft.piece(4, 1, 5, 2, 31);
            craft.piece(5, 1, 4, 2, 12, 13);
            craft.end(6, 1, 4, 2, 3);
            craft.piece(7, 1, 4, 3, 22);
            craft.end(8, 1, 4, 3, 2);
            craft.end(9, 1, 5, 2, 1);
        });
        CHECK.same("up to the end", disk.space(1), 10);
        CHECK.same("whole ones", disk.space(5), 3);
        for (int i = 0; i < 3; i++) {
            CHECK.same("byte " + i, disk.at(4, 2, i), 11 + i);
        }
        CHECK.same("another version's first", disk.at(4, 3, 0), 21);
        CHECK.same("another version's second", disk.at(4, 3, 1), 22);
        CHECK.same("another name's", disk.at(5, 2, 0), 31);
    }

    private static void piecesBehindEnds() {
        PageDisk disk = Given.started(30, craft -> {
            craft.piece(2, 1, 4, 2, 11);
            craft.end(3, 1, 4, 2, 1);
            craft.piece(4, 1, 4, 2, 12);
            craft.end(5, 1, 5, 1, 1);
            craft.piece(6, 1, 5, 1, 13);
            craft.end(7, 1, 6, 1, 1);
            craft.piece(8, 1, 6, 1, 14);
            craft.end(9, 1, 6, 1, 1);
            craft.end(10, 1, 7, 1, 0);
            craft.piece(11, 1, 7, 1, 15);
        });
        CHECK.same("up to the end", disk.space(1), 12);
        CHECK.same("a piece behind a whole one adds nothing", disk.size(4, 2), 1);
        CHECK.same("its byte", disk.at(4, 2, 0), 11);
        CHECK.fails("no second byte", ArrayIndexOutOfBoundsException.class, () -> disk.at(4, 2, 1));
        CHECK.same("a piece behind a torn one mends nothing", disk.size(5, 1), -2);
        CHECK.same("nor with an end of its own", disk.size(6, 1), -2);
        CHECK.same("an empty one stays empty", disk.size(7, 1), 0);
        CHECK.fails("no first byte", ArrayIndexOutOfBoundsException.class, () -> disk.at(7, 1, 0));
    }

    private static void takenEnd(int bytes, int told, int due) {
        PageDisk disk = Given.started(20, craft -> {
            int next = 2;
            for (int left = bytes; left > 0; left -= 50) {
                craft.piece(next, 1, 1, 1, new int[Math.min(left, 50)]);
                next++;
            }
            craft.end(next, 1, 1, 1, told);
        });
        String what = bytes + " bytes with an end of " + told;
        CHECK.same(what + ": size", disk.size(1, 1), due);
        CHECK.same(what + ": whole ones", disk.space(5), due == -2 ? 0 : 1);
        CHECK.same(what + ": latest", disk.latest(1), 1);
    }

    private static void takenEnds() {
        takenEnd(0, 0, 0);
        takenEnd(0, 1, -2);
        takenEnd(1, 0, -2);
        takenEnd(1, 1, 1);
        takenEnd(1, 2, -2);
        takenEnd(50, 49, -2);
        takenEnd(50, 50, 50);
        takenEnd(50, 51, -2);
        takenEnd(101, 101, 101);
        takenEnd(101, 100, -2);
        takenEnd(0, 2000, -2);
    }

    private static void endsOfEnded() {
        PageDisk disk = Given.started(30, craft -> {
            craft.end(2, 1, 1, 1, 0);
            craft.end(3, 1, 1, 1, 5);
            craft.end(4, 1, 2, 1, 5);
            craft.end(5, 1, 2, 1, 0);
            craft.end(6, 1, 3, 1, 0);
            craft.end(7, 1, 3, 1, 0);
        });
        CHECK.same("a whole one stays whole", disk.size(1, 1), 0);
        CHECK.same("a torn one stays torn", disk.size(2, 1), -2);
        CHECK.same("a whole one is counted once", disk.space(5), 2);
        CHECK.same("and named once", disk.folder(1), 3);
        CHECK.same("behind it comes none", disk.folder(2), -1);
    }

    /** All bytes, the name and the life are 0, so that 512 calls are enough to craft so many pieces. */
    private static PageDisk manyBytes(int last, int told) {
        return Given.started(60, craft -> {
            for (int i = 0; i < 40; i++) {
                craft.piece(2 + i, 0, 0, 1, new int[50]);
            }
            int next = 42;
            if (last > 0) {
                craft.piece(next, 0, 0, 1, new int[last]);
                next++;
            }
            if (told >= 0) {
                craft.end(next, 0, 0, 1, told);
            }
        });
    }

    private static void tooManyBytes() {
        CHECK.same("2000 bytes, no end", manyBytes(0, -1).size(0, 1), -1);
        CHECK.same("2000 bytes and their end", manyBytes(0, 2000).size(0, 1), 2000);
        CHECK.same("2001 bytes, no end", manyBytes(1, -1).size(0, 1), -2);
        CHECK.same("2001 bytes, latest", manyBytes(1, -1).latest(0), 1);
        CHECK.same("2001 bytes and an end of 2000", manyBytes(1, 2000).size(0, 1), -2);
        CHECK.same("2050 bytes, no end", manyBytes(50, -1).size(0, 1), -2);
        PageDisk disk = manyBytes(0, 2000);
        CHECK.same("the last byte", disk.at(0, 1, 1999), 0);
        CHECK.fails("byte 2000", ArrayIndexOutOfBoundsException.class, () -> disk.at(0, 1, 2000));
    }

    private static void takenRows() {
        PageDisk disk = Given.started(20, craft -> {
            craft.head(1, 1, 6);
            craft.row(2, 1, 7, 70);
            craft.state(3, 1, 0, 9);
            craft.row(5, 1, 8, 80);
        });
        CHECK.same("rows", disk.space(4), 2);
        CHECK.same("row 1, behind a wrong sector", disk.job(1, 1), 80);
        CHECK.same("its state", disk.job(1, 2), 0);
        CHECK.same("the next one", disk.row(9, 90), 2);
        CHECK.same("its state", disk.job(2, 2), 0);
        disk.state(1, 6);
        disk.state(2, 7);
        disk.cut(1, 0);
        disk.start();
        for (int row = 0; row < 3; row++) {
            CHECK.same("row " + row + " when its other state was forgotten", disk.job(row, 2), row == 0 ? 9 : 0);
        }
    }

    private static void takenStates() {
        PageDisk disk = Given.started(20, craft -> {
            craft.state(2, 1, 0, 5);
            craft.row(3, 1, 1, 1);
            craft.state(4, 1, 1, 7);
            craft.row(5, 1, 1, 1);
            craft.state(6, 1, 1, 3);
            craft.state(7, 1, 1, 4);
            craft.state(8, 1, 65535, 8);
            craft.state(9, 1, 257, 6);
            craft.row(10, 1, 1, 1);
            craft.state(11, 1, 2, 9);
            craft.state(12, 1, 2, 0);
            craft.state(13, 1, 3, 1);
        });
        CHECK.same("all are taken", disk.space(1), 14);
        CHECK.same("rows", disk.space(4), 3);
        CHECK.same("a state before its row", disk.job(0, 2), 0);
        CHECK.same("the last state of row 1", disk.job(1, 2), 4);
        CHECK.same("back to 0", disk.job(2, 2), 0);
        CHECK.same("the next row", disk.row(1, 1), 3);
        CHECK.same("has no state that was before it", disk.job(3, 2), 0);
    }

    private static void says(String words, Check.Test test) {
        CHECK.sentence("Terms", words, test);
    }

    public static void main(String[] args) {
        says("A START looks at both HEADS: of those that are GOOD", TermsOfStartTest::goodHeads);
        says("that with the greater GENERATION", TermsOfStartTest::greaterGeneration);
        says("(of the same: SECTOR 0)", TermsOfStartTest::sameGeneration);
        says("tells how many are ACKNOWLEDGED (2 without a GOOD one)", TermsOfStartTest::withoutAHead);
        says("Then SECTOR by SECTOR from 2 on", TermsOfStartTest::fromSectorTwoOn);
        says("one that is GOOD (KIND 1 to 4)", TermsOfStartTest::takenKinds);
        says("with a LIFE not below that of the last one that was so, is taken", TermsOfStartTest::takenLives);
        says("of the ACKNOWLEDGED all others are WRONG, and passed", TermsOfStartTest::wrongOnes);
        says("the first other one behind these is the end", TermsOfStartTest::theEndOfAnEmptyOrFullDisk);
        says("is the end, where writing goes on", TermsOfStartTest::theEnd);
        says("LIFE is 1 above the greatest one that was taken", TermsOfStartTest::nextLife);
        says("(65535 at most; 1 when none was)", TermsOfStartTest::firstAndLastLife);
        says("a PIECE comes behind those of its NAME and VERSION", TermsOfStartTest::takenPieces);
        says("(not when that is WHOLE or TORN already)", TermsOfStartTest::piecesBehindEnds);
        says("An END makes the VERSION WHOLE if these have as many bytes as it tells, else TORN",
            TermsOfStartTest::takenEnds);
        says("(nothing happens if it is one already, WHOLE or TORN)", TermsOfStartTest::endsOfEnded);
        says("Bytes beyond 2000 make it TORN at once", TermsOfStartTest::tooManyBytes);
        says("A ROW is the next one, with STATE 0", TermsOfStartTest::takenRows);
        says("A STATE is that of its row (nothing happens if there is none)", TermsOfStartTest::takenStates);
        CHECK.done();
    }
}
