/** The sentences of "Terms" on THE DISK, its SECTORS, the SUM, the KINDS and what is GOOD, each with its own test. */
public final class TermsOfSectorsTest {
    private static final Check CHECK = new Check();

    /** Whether a start takes the bytes in sector 2, both where it is acknowledged and where it is not. */
    private static void judge(String what, boolean good, int[] bytes) {
        PageDisk loose = Given.started(8, craft -> craft.put(2, bytes));
        CHECK.same(what + ", not acknowledged: up to the end", loose.space(1), good ? 3 : 2);
        PageDisk told = Given.started(8, craft -> {
            craft.head(0, 8, 3);
            craft.put(2, bytes);
        });
        CHECK.same(what + ", acknowledged: wrong ones", told.wrong(-1), good ? 0 : 1);
    }

    private static void good(String what, int[] bytes) {
        judge(what, true, bytes);
    }

    private static void bad(String what, int[] bytes) {
        judge(what, false, bytes);
    }

    /** Whether a start believes the bytes in sector 1, of a disk with 20 sectors, as its only head. */
    private static void judgeHead(String what, boolean good, int[] bytes, int generation, int used) {
        PageDisk disk = Given.started(20, craft -> craft.put(1, bytes));
        CHECK.same(what + ": acknowledged", disk.space(3), good ? used : 2);
        CHECK.same(what + ": generation", disk.space(8), good ? generation : 0);
    }

    private static void head(String what, boolean good, long generation, int used) {
        judgeHead(what, good, Craft.headBytes(1, generation, used), (int) generation, used);
    }

    private static int[] with(int[] bytes, int at, int width, long value) {
        Craft.number(bytes, at, width, value);
        return Craft.sealed(bytes);
    }

    private static int[] piece(int name, int version) {
        return Craft.pieceBytes(2, 1, name, version, 7);
    }

    private static int[] end(int name, int version, int count) {
        return Craft.endBytes(2, 1, name, version, count);
    }

    private static int[] row() {
        return Craft.rowBytes(2, 1, 1, 1);
    }

    private static int[] state(int row, int state) {
        return Craft.stateBytes(2, 1, row, state);
    }

    private static void theDisk() {
        for (int sectors = 8; sectors <= 160; sectors += 152) {
            for (int sector = 0; sector < sectors; sector++) {
                CHECK.sector("new", new PageDisk(sectors), sector, new int[64]);
            }
            PageDisk disk = new PageDisk(sectors);
            int last = sectors - 1;
            CHECK.fails("byte 64", IndexOutOfBoundsException.class, () -> disk.look(last, 64));
            CHECK.fails("the sector behind", IndexOutOfBoundsException.class, () -> disk.look(last + 1, 0));
        }
    }

    private static PageDisk largeNumbers() {
        return Given.started(20, craft -> {
            craft.head(0, 0x01020304, 4);
            craft.piece(2, 0x01ff, 999, 0x0102, 1);
            craft.row(3, 0x0203, 1, 0x0102030405060708L);
        });
    }

    private static void numbersRead() {
        PageDisk disk = largeNumbers();
        CHECK.same("rows", disk.space(4), 1);
        CHECK.same("a life", disk.space(7), 0x0204);
        CHECK.same("a generation", disk.space(8), 0x01020304);
        CHECK.same("a name and a version", disk.file(999), 0x0103);
        CHECK.same("a value", disk.job(0, 1), 0x0102030405060708L);
    }

    private static void numbersWritten() {
        PageDisk disk = largeNumbers();
        Given.version(disk, 999, 300);
        disk.row(5, 0x0807060504030201L);
        disk.sync();
        int[] end = {0, 10, 2, 4, 2, 6, 3, 231, 1, 3, 1, 44};
        for (int at = 0; at < end.length; at++) {
            CHECK.same("an end, byte " + at, disk.look(10, at), end[at]);
        }
        for (int at = 0; at < 8; at++) {
            CHECK.same("a value, byte " + at, disk.look(11, 7 + at), 8 - at);
        }
        int[] head = {1, 2, 3, 5, 0, 12};
        for (int at = 0; at < head.length; at++) {
            CHECK.same("a head, byte " + at, disk.look(1, 6 + at), head[at]);
        }
    }

    private static void numbers() {
        numbersRead();
        numbersWritten();
    }

    private static void sum(String what, PageDisk disk, int sector, long due) {
        long sum = 0;
        for (int at = 60; at < 64; at++) {
            sum = sum * 256 + disk.look(sector, at);
        }
        CHECK.same("the sum of " + what, sum, due);
    }

    /** The sums that are due were computed by another program. */
    private static void sums() {
        PageDisk zeros = new PageDisk(20);
        zeros.row(0, 0);
        zeros.row(0, 0);
        zeros.sync();
        sum("a row of 0", zeros, 2, 0x6c43dc59L);
        sum("the first head", zeros, 1, 0xfecf6030L);
        PageDisk disk = new PageDisk(20);
        disk.row(255, -1);
        disk.file(999);
        disk.end(999);
        disk.state(0, 9);
        disk.file(0);
        for (int i = 0; i < 50; i++) {
            disk.append(0, (byte) -128);
        }
        disk.sync();
        sum("a row of all bits", disk, 2, 0xd30e121aL);
        sum("an empty file's end", disk, 3, 0xf1a9ce47L);
        sum("a state", disk, 4, 0x82b54aefL);
        sum("a full piece", disk, 5, 0x5cc3dbcaL);
    }

    private static void bytesOfTheSum() {
        for (int at = 0; at < 60; at++) {
            int[] bytes = row();
            bytes[at] ^= 128;
            bad("byte " + at + " altered without its sum", bytes);
            PageDisk poked = Given.rows(8, 2);
            poked.sync();
            poked.poke(2, at, 1);
            poked.cut(0, 0);
            poked.start();
            CHECK.same("byte " + at + " altered on the disk: wrong ones", poked.wrong(-1), 1);
            CHECK.same("byte " + at + " altered on the disk: rows", poked.space(4), 1);
        }
    }

    private static void placeOfTheSum() {
        good("a right sum", row());
        for (int at = 60; at < 64; at++) {
            int[] bytes = row();
            bytes[at] ^= 1;
            bad("a sum with byte " + at + " altered", bytes);
        }
    }

    private static void layout() {
        PageDisk disk = new PageDisk(12);
        Given.version(disk, 7, 51);
        disk.row(3, -2);
        disk.state(0, 4);
        disk.sync();
        CHECK.sector("an end", disk, 4, Craft.endBytes(4, 1, 7, 1, 51));
        CHECK.sector("a row", disk, 5, Craft.rowBytes(5, 1, 3, -2));
        CHECK.sector("a state", disk, 6, Craft.stateBytes(6, 1, 0, 4));
        CHECK.sector("a head", disk, 1, Craft.headBytes(1, 1, 7));
    }

    private static void othersAreZero() {
        PageDisk disk = new PageDisk(12);
        for (int at = 0; at < 64; at++) {
            disk.poke(2, at, 255);
            disk.poke(3, at, 255);
        }
        Given.version(disk, 7, 51);
        disk.sync();
        int[] full = new int[50];
        for (int i = 0; i < 50; i++) {
            full[i] = (i * 7 + 1) & 255;
        }
        CHECK.sector("a full piece over other bytes", disk, 2, Craft.pieceBytes(2, 1, 7, 1, full));
        CHECK.sector("a short piece behind a full one", disk, 3, Craft.pieceBytes(3, 1, 7, 1, (50 * 7 + 1) & 255));
        PageDisk again = new PageDisk(12);
        again.row(255, -1);
        Given.version(again, 7, 50);
        again.cut(1, 0);
        again.start();
        again.state(0, 3);
        again.sync();
        CHECK.sector("a state where a full piece was forgotten", again, 3, Craft.stateBytes(3, 2, 0, 3));
    }

    private static void names() {
        good("a piece of name 0", piece(0, 1));
        good("a piece of name 999", piece(999, 1));
        bad("a piece of name 1000", piece(1000, 1));
        bad("a piece of name 65535", piece(65535, 1));
    }

    private static void versions() {
        bad("a piece of version 0", piece(1, 0));
        good("a piece of version 1", piece(1, 1));
        good("a piece of version 9999", piece(1, 9999));
        bad("a piece of version 10000", piece(1, 10000));
        bad("a piece of version 65535", piece(1, 65535));
    }

    private static void pieces() {
        bad("a piece of no byte", Craft.pieceBytes(2, 1, 1, 1));
        good("a piece of 1 byte", Craft.pieceBytes(2, 1, 1, 1, 9));
        good("a piece of 50 bytes", Craft.pieceBytes(2, 1, 1, 1, new int[50]));
        bad("a piece of 51 bytes", with(Craft.pieceBytes(2, 1, 1, 1, new int[50]), 5, 1, 55));
    }

    private static void ends() {
        good("an end of name 0", end(0, 1, 0));
        good("an end of name 999", end(999, 1, 0));
        bad("an end of name 1000", end(1000, 1, 0));
        bad("an end of version 0", end(1, 0, 0));
        good("an end of version 9999", end(1, 9999, 0));
        bad("an end of version 10000", end(1, 10000, 0));
    }

    private static void countsOfEnds() {
        good("an end of 0 bytes", end(1, 1, 0));
        good("an end of 2000 bytes", end(1, 1, 2000));
        bad("an end of 2001 bytes", end(1, 1, 2001));
        bad("an end of 65535 bytes", end(1, 1, 65535));
    }

    private static void rows() {
        long[] values = {0, -1, Long.MIN_VALUE, Long.MAX_VALUE};
        for (long value : values) {
            for (int kind = 0; kind < 256; kind += 255) {
                int itsKind = kind;
                PageDisk disk = Given.started(8, craft -> craft.row(2, 1, itsKind, value));
                CHECK.same("rows", disk.space(4), 1);
                CHECK.same("kind", disk.job(0, 0), kind);
                CHECK.same("value", disk.job(0, 1), value);
            }
        }
    }

    private static void states() {
        good("a state of row 0", state(0, 1));
        good("a state of row 65535", state(65535, 1));
        good("state 0", state(1, 0));
        good("state 9", state(1, 9));
        bad("state 10", state(1, 10));
        bad("state 255", state(1, 255));
        PageDisk many = Given.rows(160, 150);
        many.state(149, 7);
        CHECK.same("all come", many.cut(151, 0), 151);
        many.start();
        CHECK.same("rows", many.space(4), 150);
        CHECK.same("the state of row 149", many.job(149, 2), 7);
        CHECK.same("the state of row 148", many.job(148, 2), 0);
    }

    private static void placesOfHeads() {
        bad("a head in sector 2", Craft.headBytes(2, 3, 5));
        bad("a head in sector 2 with a life", with(Craft.headBytes(2, 3, 5), 2, 2, 1));
        PageDisk first = Given.started(20, craft -> craft.head(0, 3, 5));
        CHECK.same("one in sector 0 alone: acknowledged", first.space(3), 5);
        PageDisk second = Given.started(20, craft -> craft.head(1, 3, 5));
        CHECK.same("one in sector 1 alone: acknowledged", second.space(3), 5);
    }

    private static void generations() {
        head("generation 0", true, 0, 5);
        head("generation 999999999", true, 999999999, 5);
        head("generation 1000000000", false, 1000000000, 5);
        head("generation 2 to the 31st", false, 1L << 31, 5);
        head("generation 4294967295", false, 4294967295L, 5);
    }

    private static void usedSectors() {
        head("none used", false, 7, 0);
        head("1 used", false, 7, 1);
        head("2 used", true, 7, 2);
        head("all but one used", true, 7, 19);
        head("all used", true, 7, 20);
        head("one more than all used", false, 7, 21);
        head("256 more than 5 used", false, 7, 261);
        head("65535 used", false, 7, 65535);
    }

    private static void rightNumberAndSum() {
        good("the right number", with(row(), 0, 2, 2));
        bad("the number before", with(row(), 0, 2, 1));
        bad("the number behind", with(row(), 0, 2, 3));
        bad("number 0", with(row(), 0, 2, 0));
        bad("a number that is 256 too great", with(row(), 0, 2, 258));
        judgeHead("a head with another number", false, with(Craft.headBytes(1, 3, 5), 0, 2, 0), 3, 5);
        int[] spoilt = Craft.headBytes(1, 3, 5);
        spoilt[60] ^= 128;
        judgeHead("a head with another sum", false, spoilt, 3, 5);
        bad("all bytes 0, whose sum is right", new int[64]);
    }

    private static int[] kinded(int kind, int length) {
        int[] bytes = Craft.begin(2, 1, kind, length);
        Craft.number(bytes, 6, 2, 1);
        Craft.number(bytes, 8, 2, 1);
        Craft.number(bytes, 10, 2, 2);
        return Craft.sealed(bytes);
    }

    private static boolean together(int kind, int length) {
        return kind == 1 && length >= 5 && length <= 54 || kind == 2 && length == 6 || kind == 3 && length == 9
            || kind == 4 && length == 3;
    }

    private static void kindsAndLengths() {
        for (int kind = 0; kind < 7; kind++) {
            for (int length = 0; length < 256; length++) {
                judge("kind " + kind + " with length " + length, together(kind, length), kinded(kind, length));
            }
        }
        int[] lengths = {3, 5, 6, 9, 54};
        for (int kind = 7; kind < 256; kind++) {
            bad("kind " + kind, kinded(kind, lengths[kind % lengths.length]));
        }
        for (int length = 0; length < 256; length++) {
            int[] bytes = with(Craft.headBytes(1, 3, 5), 5, 1, length);
            judgeHead("a head with length " + length, length == 6, bytes, 3, 5);
        }
        for (int kind = 0; kind < 256; kind++) {
            int[] bytes = with(Craft.headBytes(1, 0x00010001, 5), 4, 1, kind);
            judgeHead("kind " + kind + " in a head's place", kind == 9, bytes, 0x00010001, 5);
        }
    }

    private static void numbersAsTold() {
        int[][] wrongNumbers = {piece(1000, 1), piece(1, 0), piece(1, 10000), end(1000, 1, 0), end(1, 0, 0), end(1, 10000, 0),
            end(1, 1, 2001), state(0, 10)};
        for (int[] bytes : wrongNumbers) {
            bad("kind " + bytes[4] + " with a number that is not so", bytes);
        }
        int[][] rightNumbers = {piece(999, 9999), end(999, 9999, 2000), row(), state(65535, 9)};
        for (int[] bytes : rightNumbers) {
            good("kind " + bytes[4] + " with numbers that are so", bytes);
        }
        head("the greatest numbers of a head", true, 999999999, 20);
        head("a head's generation that is not so", false, 1000000000, 20);
        head("a head's sectors that are not so", false, 999999999, 21);
    }

    private static void nothingElse() {
        for (int at = 11; at < 60; at++) {
            good("a piece of 1 byte with byte " + at + " not 0", with(piece(1, 1), at, 1, 255));
        }
        good("an end with a byte behind it", with(end(1, 1, 0), 12, 1, 255));
        good("a row with a byte behind it", with(row(), 15, 1, 255));
        good("a state with a byte behind it", with(state(0, 1), 9, 1, 255));
        good("life 0", with(row(), 2, 2, 0));
        good("life 65535", with(row(), 2, 2, 65535));
        good("a state of no row", state(9, 1));
        good("an end of no piece", end(1, 1, 5));
        judgeHead("a head with a life", true, with(Craft.headBytes(1, 3, 5), 2, 2, 65535), 3, 5);
        judgeHead("a head with a byte behind it", true, with(Craft.headBytes(1, 3, 5), 12, 1, 255), 3, 5);
        judgeHead("a head whose generation is the other sector's", true, Craft.headBytes(1, 4, 5), 4, 5);
    }

    private static void says(String words, Check.Test test) {
        CHECK.sentence("Terms", words, test);
    }

    public static void main(String[] args) {
        says("THE DISK has SECTORS 0, 1, .. of 64 bytes, all 0 at first", TermsOfSectorsTest::theDisk);
        says("NUMBERS of several bytes have the highest one first", TermsOfSectorsTest::numbers);
        says("The SUM of bytes 0 .. 59 of one", TermsOfSectorsTest::bytesOfTheSum);
        says("s = 0; by each byte b s becomes (s ^ b) turned left by 13 bits (of 32), times 3266489917, "
            + "of which 32 bits are left", TermsOfSectorsTest::sums);
        says("it stands in bytes 60 .. 63", TermsOfSectorsTest::placeOfTheSum);
        says("0, 1 the SECTOR's number; 2, 3 a LIFE; 4 the KIND; 5 the LENGTH, of what stands from byte 6 on",
            TermsOfSectorsTest::layout);
        says("all others are written as 0", TermsOfSectorsTest::othersAreZero);
        says("1 PIECE: a NAME 0 .. 999", TermsOfSectorsTest::names);
        says("and a VERSION 1 .. 9999 (two bytes each)", TermsOfSectorsTest::versions);
        says("1 to 50 bytes of its file", TermsOfSectorsTest::pieces);
        says("2 END: NAME, VERSION", TermsOfSectorsTest::ends);
        says("and how many bytes the file has (0 .. 2000; two bytes)", TermsOfSectorsTest::countsOfEnds);
        says("3 ROW: its kind (a byte), its value (8 bytes)", TermsOfSectorsTest::rows);
        says("4 STATE: a row's number (two bytes), 0 .. 9 (a byte)", TermsOfSectorsTest::states);
        says("9 HEAD, in SECTORS 0 and 1 alone", TermsOfSectorsTest::placesOfHeads);
        says("a GENERATION 0 .. 999999999 (4 bytes)", TermsOfSectorsTest::generations);
        says("and how many SECTORS are USED then (2 .. all of them; two bytes)", TermsOfSectorsTest::usedSectors);
        says("A SECTOR is GOOD when its number and SUM are right", TermsOfSectorsTest::rightNumberAndSum);
        says("KIND and LENGTH go together (5 to 54, 6, 9, 3, 6)", TermsOfSectorsTest::kindsAndLengths);
        says("and what is told above of its numbers is so", TermsOfSectorsTest::numbersAsTold);
        says("Nothing else is asked of it", TermsOfSectorsTest::nothingElse);
        CHECK.done();
    }
}
