import java.util.Arrays;

/** The sentences of "Terms" on WRITES, SYNC, FILES, ROOM and CUT, each with its own test. */
public final class TermsOfWritesTest {
    private static final Check CHECK = new Check();

    private static void writes() {
        PageDisk disk = new PageDisk(8);
        disk.row(1, 10);
        CHECK.same("up to the end behind one", disk.space(1), 3);
        disk.row(1, 20);
        CHECK.same("up to the end behind two", disk.space(1), 4);
        disk.sync();
        disk.row(1, 30);
        disk.sync();
        for (int sector = 2; sector < 5; sector++) {
            CHECK.sector("row", disk, sector, Craft.rowBytes(sector, 1, 1, 10 * (sector - 1)));
        }
    }

    private static void lives() {
        PageDisk disk = Given.rows(8, 1);
        disk.sync();
        disk.cut(0, 0);
        disk.start();
        disk.state(0, 5);
        disk.row(6, 7);
        disk.sync();
        CHECK.sector("in the second life", disk, 3, Craft.stateBytes(3, 2, 0, 5));
        CHECK.sector("in the second life", disk, 4, Craft.rowBytes(4, 2, 6, 7));
        PageDisk late = Given.started(20, craft -> craft.row(2, 65534, 1, 1));
        Given.version(late, 3, 1);
        late.sync();
        CHECK.sector("a piece in the last life", late, 3, Craft.pieceBytes(3, 65535, 3, 1, 1));
        CHECK.sector("an end in the last life", late, 4, Craft.endBytes(4, 65535, 3, 1, 1));
    }

    private static void waiting() {
        PageDisk waits = new PageDisk(8);
        Given.version(waits, 3, 1);
        waits.row(1, 1);
        CHECK.same("wait", waits.space(2), 3);
        for (int sector = 0; sector < 5; sector++) {
            CHECK.sector("before the sync", waits, sector, new int[64]);
        }
        waits.sync();
        CHECK.same("wait behind the sync", waits.space(2), 0);
        CHECK.sector("behind the sync", waits, 4, Craft.rowBytes(4, 1, 1, 1));
    }

    private static void syncs() {
        for (int keep = 0; keep <= 4; keep++) {
            PageDisk disk = Given.rows(8, 3);
            disk.cut(keep, 0);
            for (int sector = 2; sector < 5; sector++) {
                CHECK.same("kept " + keep + ", sector " + sector, disk.look(sector, 4), sector - 2 < keep ? 3 : 0);
            }
            CHECK.same("kept " + keep + ", the head", disk.look(1, 4), keep > 3 ? 9 : 0);
        }
        PageDisk all = Given.rows(8, 3);
        CHECK.same("sync", all.sync(), 4);
        for (int sector = 2; sector < 5; sector++) {
            CHECK.sector("row", all, sector, Craft.rowBytes(sector, 1, 1, sector - 2));
        }
        CHECK.sector("the head", all, 1, Craft.headBytes(1, 1, 5));
    }

    private static void generations() {
        PageDisk first = Given.rows(8, 1);
        CHECK.same("none was written", first.space(8), 0);
        first.sync();
        CHECK.same("the first one", first.space(8), 1);
        PageDisk last = Given.started(20, craft -> craft.head(0, 999999998, 2));
        last.row(1, 1);
        last.sync();
        CHECK.same("the last one", last.space(8), 999999999);
        CHECK.sector("the last one", last, 1, Craft.headBytes(1, 999999999, 3));
        last.row(1, 2);
        last.sync();
        CHECK.same("behind the last one", last.space(8), 0);
        CHECK.sector("behind the last one", last, 0, Craft.headBytes(0, 0, 4));
        last.row(1, 3);
        last.sync();
        CHECK.same("the next one", last.space(8), 1);
        CHECK.sector("the next one", last, 1, Craft.headBytes(1, 1, 5));
        CHECK.sector("and the other stays", last, 0, Craft.headBytes(0, 0, 4));
    }

    private static void headsInTurn() {
        PageDisk disk = Given.started(20, craft -> craft.row(2, 300, 1, 1));
        for (int generation = 1; generation < 4; generation++) {
            disk.row(1, 1);
            disk.sync();
            int sector = generation % 2;
            CHECK.sector("head", disk, sector, Craft.headBytes(sector, generation, 3 + generation));
        }
        CHECK.sector("the one before is still there", disk, 0, Craft.headBytes(0, 2, 5));
    }

    private static void acknowledged() {
        PageDisk late = Given.rows(20, 3);
        late.cut(2, 0);
        late.start();
        CHECK.same("none of two that were found", late.space(3), 2);
        late.row(1, 1);
        CHECK.same("nor one that waits", late.space(3), 2);
        late.sync();
        CHECK.same("all", late.space(3), 5);
        late.poke(2, 20, 1);
        late.cut(0, 0);
        late.start();
        CHECK.same("so that the first is told", late.wrong(0), 2);
    }

    private static void syncsOfNothing() {
        PageDisk fresh = new PageDisk(8);
        CHECK.keeps("the sync of a new disk", fresh, 0, fresh::sync);
        PageDisk synced = Given.rows(8, 2);
        synced.sync();
        CHECK.keeps("a second sync", synced, 0, synced::sync);
        PageDisk open = new PageDisk(8);
        open.file(1);
        open.append(1, (byte) 1);
        CHECK.keeps("the sync of bytes that are not written", open, 0, open::sync);
        PageDisk found = Given.rows(8, 2);
        found.cut(2, 0);
        found.start();
        CHECK.keeps("the sync of what a start found", found, 0, found::sync);
        CHECK.same("it is not acknowledged by that", found.space(3), 2);
        PageDisk last = Given.started(8, craft -> craft.head(1, 999999999, 2));
        CHECK.keeps("the sync behind the last generation", last, 0, last::sync);
    }

    private static void sixFiles() {
        PageDisk disk = new PageDisk(40);
        for (int name = 0; name < 6; name++) {
            CHECK.same("file " + name, disk.file(name), 1);
            CHECK.same("open", disk.space(6), name + 1);
        }
        CHECK.keeps("a seventh", disk, 0, () -> disk.file(6));
        disk.end(0);
        CHECK.same("one less", disk.space(6), 5);
        CHECK.same("a sixth again", disk.file(6), 1);
        CHECK.keeps("a seventh again", disk, 0, () -> disk.file(0));
    }

    private static void fullPieces() {
        PageDisk bytes = new PageDisk(20);
        bytes.file(1);
        for (int i = 1; i <= 151; i++) {
            bytes.append(1, (byte) i);
            CHECK.same("written behind byte " + i, bytes.space(2), i / 50);
        }
    }

    private static void restAndEnd() {
        int[] sizes = {0, 1, 49, 50, 51, 99, 100, 101};
        for (int size : sizes) {
            PageDisk one = new PageDisk(20);
            one.file(1);
            Given.append(one, 1, size);
            CHECK.same("written before the end of " + size, one.space(2), size / 50);
            CHECK.same("no version yet of " + size, one.size(1, 1), -1);
            CHECK.same("none whole yet", one.space(5), 0);
            one.end(1);
            CHECK.same("written behind the end of " + size, one.space(2), (size + 49) / 50 + 1);
            CHECK.same("the version of " + size, one.size(1, 1), size);
            CHECK.same("whole", one.space(5), 1);
            one.sync();
            int last = 2 + (size + 49) / 50;
            CHECK.sector("the end of " + size, one, last, Craft.endBytes(last, 1, 1, 1, size));
            if (size > 0) {
                CHECK.same("the last piece's length of " + size, one.look(last - 1, 5), 4 + (size - 1) % 50 + 1);
            }
        }
    }

    private static void nextVersion() {
        PageDisk disk = new PageDisk(40);
        CHECK.same("none was met", disk.file(0), 1);
        disk.end(0);
        CHECK.same("by opening", disk.file(0), 2);
        disk.end(0);
        CHECK.same("by opening again", disk.file(0), 3);
        CHECK.same("another name", disk.file(1), 1);
        PageDisk full = new PageDisk(8);
        full.file(1);
        full.file(2);
        full.file(3);
        full.end(1);
        CHECK.same("an opening without room", full.file(4), 0);
        full.cut(0, 0);
        full.start();
        CHECK.same("was never met", full.file(4), 1);
        CHECK.same("and a cut forgets one that was opened", full.file(1), 1);
        PageDisk six = new PageDisk(40);
        for (int name = 0; name < 6; name++) {
            six.file(name);
        }
        CHECK.same("a seventh that is refused", six.file(6), 0);
        six.end(0);
        CHECK.same("was not met", six.file(6), 1);
    }

    private static void versionsThatWereRead() {
        PageDisk disk = Given.started(40, craft -> {
            craft.head(1, 1, 10);
            craft.piece(2, 1, 1, 40, 9);
            craft.end(3, 1, 2, 30, 0);
            craft.end(4, 1, 3, 20, 0);
            craft.end(5, 1, 3, 10, 0);
            craft.end(6, 1, 4, 50, 7);
            craft.piece(7, 1, 5, 60, 9);
            craft.end(8, 1, 5, 5, 0);
            int[] spoilt = Craft.endBytes(9, 1, 6, 70, 0);
            spoilt[63] ^= 1;
            craft.put(9, spoilt);
        });
        CHECK.same("in a piece", disk.file(1), 41);
        CHECK.same("in an end", disk.file(2), 31);
        CHECK.same("the greatest one, not the last", disk.file(3), 21);
        disk.end(1);
        disk.end(2);
        disk.end(3);
        CHECK.same("in an end of a torn one", disk.file(4), 51);
        CHECK.same("in a piece without an end, above one that ended", disk.file(5), 61);
        CHECK.same("not in one that is wrong", disk.file(6), 1);
    }

    /** Rows fill what the needs leave, so that the rows that fit in tell the needs. */
    private static void needs(String what, PageDisk disk, int due) {
        int left = disk.space(0) - disk.space(1) - due;
        for (int i = 0; i < left; i++) {
            CHECK.same(what + ": row", disk.row(1, i) >= 0 ? 1 : 0, 1);
        }
        CHECK.keeps(what + ": one row more", disk, -1, () -> disk.row(1, 1));
    }

    private static PageDisk open(int bytes) {
        PageDisk disk = new PageDisk(16);
        disk.file(1);
        Given.append(disk, 1, bytes);
        return disk;
    }

    private static void roomForEnds() {
        needs("no file", new PageDisk(16), 0);
        needs("an empty one", open(0), 1);
        PageDisk six = new PageDisk(16);
        for (int name = 0; name < 6; name++) {
            six.file(name);
        }
        needs("six of them", six, 6);
        PageDisk ended = open(0);
        ended.end(1);
        needs("one that has ended", ended, 0);
        PageDisk forgotten = open(0);
        forgotten.cut(0, 0);
        forgotten.start();
        needs("one that was forgotten", forgotten, 0);
    }

    private static void roomForRests() {
        needs("1 byte", open(1), 2);
        needs("49 bytes", open(49), 2);
        needs("50 bytes, all written", open(50), 1);
        needs("51 bytes", open(51), 2);
        needs("100 bytes, all written", open(100), 1);
        PageDisk two = open(1);
        two.file(2);
        two.append(2, (byte) 1);
        needs("two files with bytes", two, 4);
        PageDisk full = open(3);
        needs("before the end", full, 2);
        full.end(1);
        CHECK.same("an end finds the room that was kept for it", full.space(1), 16);
        CHECK.same("whole", full.size(1, 1), 3);
    }

    private static void roomToOpen() {
        for (int sectors = 8; sectors <= 12; sectors++) {
            for (int rows = 0; rows <= sectors - 2; rows++) {
                PageDisk disk = Given.rows(sectors, rows);
                int due = 2 + rows + 1 + 3 <= sectors ? 1 : 0;
                CHECK.same("file behind " + rows + " rows of " + sectors, disk.file(1), due);
                PageDisk second = new PageDisk(sectors);
                second.file(1);
                second.append(1, (byte) 1);
                Given.addRows(second, rows);
                int used = Math.min(2 + rows, sectors - 2);
                CHECK.same("a second file behind " + rows + " rows of " + sectors, second.file(2),
                    used + 2 + 1 + 3 <= sectors ? 1 : 0);
            }
        }
        PageDisk full = Given.rows(8, 3);
        CHECK.keeps("a file that finds no room", full, 0, () -> full.file(1));
    }

    private static void roomForFirstBytes() {
        for (int sectors = 8; sectors <= 12; sectors++) {
            for (int rows = 0; rows <= sectors - 3; rows++) {
                PageDisk disk = new PageDisk(sectors);
                disk.file(1);
                Given.addRows(disk, rows);
                int due = 2 + rows + 1 + 1 + 3 <= sectors ? 1 : 0;
                CHECK.same("the first byte behind " + rows + " rows of " + sectors, disk.append(1, (byte) 1), due);
                PageDisk second = new PageDisk(sectors);
                second.file(1);
                Given.append(second, 1, 50);
                Given.addRows(second, rows);
                int used = Math.min(3 + rows, sectors - 1);
                CHECK.same("byte 51 behind " + rows + " rows of " + sectors, second.append(1, (byte) 1),
                    used + 1 + 1 + 3 <= sectors ? 1 : 0);
            }
        }
        PageDisk full = new PageDisk(8);
        full.file(1);
        full.append(1, (byte) 1);
        Given.addRows(full, 6);
        CHECK.same("no room for a row", full.row(1, 1), -1);
        for (int i = 2; i <= 50; i++) {
            CHECK.same("byte " + i + " is no first one", full.append(1, (byte) i), 1);
        }
        CHECK.keeps("byte 51 is", full, 0, () -> full.append(1, (byte) 51));
        CHECK.same("the end finds room", full.end(1), 1);
        CHECK.same("up to the end", full.space(1), 8);
    }

    private static PageDisk emptyFiles(int open) {
        PageDisk disk = new PageDisk(10);
        for (int name = 0; name < open; name++) {
            disk.file(name);
        }
        return disk;
    }

    private static void roomForRows() {
        for (int open = 0; open < 3; open++) {
            int most = 8 - open;
            PageDisk disk = emptyFiles(open);
            for (int i = 0; i < most - 1; i++) {
                CHECK.same("row " + i + " beside " + open, disk.row(1, 1), i);
            }
            CHECK.same("the last sector but the needs for a state", disk.state(0, 7), 0);
            CHECK.keeps("a state more", disk, -1, () -> disk.state(0, 8));
            CHECK.keeps("a row more", disk, -1, () -> disk.row(1, 1));
            CHECK.same("the state", disk.job(0, 2), 7);
            PageDisk rows = emptyFiles(open);
            for (int i = 0; i < most; i++) {
                CHECK.same("row " + i + " beside " + open, rows.row(1, 1), i);
            }
            CHECK.keeps("one row more", rows, -1, () -> rows.row(1, 1));
            CHECK.keeps("one state more", rows, -1, () -> rows.state(0, 1));
        }
    }

    private static void cutOfNone() {
        PageDisk none = Given.rows(8, 1);
        none.sync();
        none.file(1);
        none.append(1, (byte) 1);
        CHECK.same("none wait", none.cut(5, 63), 0);
        CHECK.sector("head 1 is as it was", none, 1, Craft.headBytes(1, 1, 3));
        CHECK.sector("no head 2 is torn", none, 0, new int[64]);
        CHECK.sector("no write is torn", none, 3, new int[64]);
    }

    private static void keptWrites() {
        for (int keep = 0; keep < 6; keep++) {
            PageDisk disk = Given.rows(8, 3);
            CHECK.same("keep " + keep + " of 3 and a head", disk.cut(keep, 0), Math.min(keep, 4));
            disk.start();
            CHECK.same("rows of " + keep, disk.space(4), Math.min(keep, 3));
            CHECK.same("acknowledged of " + keep, disk.space(3), keep < 4 ? 2 : 5);
        }
        CHECK.same("keep MAX", Given.rows(8, 3).cut(Integer.MAX_VALUE, 63), 4);
        CHECK.same("keep none of a full disk", Given.rows(8, 6).cut(0, 0), 0);
        CHECK.same("keep all of a full disk", Given.rows(8, 6).cut(9, 0), 7);
    }

    /** The sector had bytes before, so that those that do not come can be told from 0. */
    private static void tornWrites() {
        for (int tear = 0; tear < 64; tear++) {
            PageDisk disk = Given.rows(8, 2);
            for (int at = 0; at < 64; at++) {
                disk.poke(3, at, 170);
            }
            CHECK.same("cut(1, " + tear + ")", disk.cut(1, tear), 1);
            int[] due = new int[64];
            Arrays.fill(due, 170);
            System.arraycopy(Craft.rowBytes(3, 1, 1, 1), 0, due, 0, tear);
            due[4] = tear > 0 ? 255 : 170;
            CHECK.sector("torn behind " + tear, disk, 3, due);
        }
    }

    private static void tornHeads() {
        int[] tears = {0, 1, 4, 5, 12, 63};
        for (int tear : tears) {
            PageDisk disk = Given.rows(8, 1);
            disk.sync();
            disk.row(1, 2);
            disk.sync();
            disk.row(1, 3);
            CHECK.same("the head is next", disk.cut(1, tear), 1);
            int[] due = Craft.headBytes(1, 1, 3);
            System.arraycopy(Craft.headBytes(1, 3, 5), 0, due, 0, tear);
            due[4] = tear > 0 ? 255 : 9;
            CHECK.sector("a head torn behind " + tear, disk, 1, due);
            disk.start();
            CHECK.same("the other head tells", disk.space(8), 2);
        }
    }

    private static void tornOnesAreNotGood() {
        int[] tears = {1, 4, 5, 63};
        for (int tear : tears) {
            PageDisk disk = Given.rows(8, 2);
            disk.cut(1, tear);
            CHECK.same("the kind of one torn behind " + tear, disk.look(3, 4), 255);
            disk.start();
            CHECK.same("up to the end, torn behind " + tear, disk.space(1), 3);
        }
        PageDisk same = Given.rows(8, 1);
        same.cut(1, 0);
        same.poke(2, 0, 1);
        same.start();
        same.row(1, 0);
        same.poke(2, 0, 1);
        CHECK.same("bytes that are there already", same.cut(0, 63), 0);
        CHECK.same("get 255 as their kind, too", same.look(2, 4), 255);
        same.start();
        CHECK.same("and are not found", same.space(1), 2);
    }

    private static void othersNotAtAll() {
        PageDisk two = Given.rows(8, 4);
        two.cut(1, 20);
        for (int sector = 4; sector < 6; sector++) {
            CHECK.sector("behind the torn one", two, sector, new int[64]);
        }
        CHECK.sector("no head", two, 1, new int[64]);
    }

    private static void forgotten() {
        PageDisk disk = Given.rows(20, 1);
        disk.sync();
        disk.row(2, 2);
        disk.state(0, 5);
        Given.version(disk, 1, 3);
        disk.file(2);
        Given.append(disk, 2, 3);
        disk.cut(0, 0);
        CHECK.same("start", disk.start(), 0);
        CHECK.space("as it came to the disk", disk, 20, 3, 0, 3, 1, 0, 0, 2, 1, 0);
        CHECK.same("the state", disk.job(0, 2), 0);
        CHECK.same("the version", disk.size(1, 1), -1);
        CHECK.same("a version that was met", disk.file(1), 1);
        CHECK.same("a file that was open", disk.file(2), 1);
        disk.end(2);
        CHECK.same("its bytes", disk.size(2, 1), 0);
    }

    private static void shutUntilAStart() {
        PageDisk disk = new PageDisk(8);
        CHECK.same("not shut", disk.space(9), 0);
        disk.cut(0, 0);
        CHECK.same("shut", disk.space(9), 1);
        CHECK.fails("a row", IllegalStateException.class, () -> disk.row(1, 1));
        disk.start();
        CHECK.same("not shut again", disk.space(9), 0);
        CHECK.same("a row", disk.row(1, 1), 0);
    }

    private static void says(String words, Check.Test test) {
        CHECK.sentence("Terms", words, test);
    }

    public static void main(String[] args) {
        says("WRITES go behind those before, from SECTOR 2 on", TermsOfWritesTest::writes);
        says("with the LIFE of now", TermsOfWritesTest::lives);
        says("they WAIT until a sync", TermsOfWritesTest::waiting);
        says("A SYNC brings all that WAIT to the disk, in order, then a HEAD of the next GENERATION",
            TermsOfWritesTest::syncs);
        says("(0 behind 999999999; 1 the first one)", TermsOfWritesTest::generations);
        says("in SECTOR GENERATION modulo 2, with LIFE 0", TermsOfWritesTest::headsInTurn);
        says("then all are ACKNOWLEDGED", TermsOfWritesTest::acknowledged);
        says("With none that WAIT it does nothing", TermsOfWritesTest::syncsOfNothing);
        says("FILES are OPEN (6 at most) or not", TermsOfWritesTest::sixFiles);
        says("An OPEN one's bytes are written as a PIECE as soon as there are 50", TermsOfWritesTest::fullPieces);
        says("the rest, and the END, when it ends: it is a VERSION then, WHOLE", TermsOfWritesTest::restAndEnd);
        says("Its VERSION is 1 above the greatest one of its NAME that was ever met", TermsOfWritesTest::nextVersion);
        says("(in a PIECE or END that was read, or by opening)", TermsOfWritesTest::versionsThatWereRead);
        says("ROOM: each OPEN file needs a SECTOR for its END", TermsOfWritesTest::roomForEnds);
        says("and one for bytes that are not written yet, if there are some", TermsOfWritesTest::roomForRests);
        says("A file opens, [..] only if behind that all these needs and 3 more SECTORS fit in",
            TermsOfWritesTest::roomToOpen);
        says("or takes a byte that is the first of a PIECE, only if behind that all these needs and 3 more SECTORS fit in",
            TermsOfWritesTest::roomForFirstBytes);
        says("a ROW or STATE, if the needs fit in behind it", TermsOfWritesTest::roomForRows);
        says("of the writes that WAIT and the HEAD of a SYNC (none when none WAIT)", TermsOfWritesTest::cutOfNone);
        says("so many come to the disk whole", TermsOfWritesTest::keptWrites);
        says("of the next one its first bytes alone (so many), and, if there are any, 255 as its KIND",
            TermsOfWritesTest::tornWrites);
        says("and the HEAD of a SYNC [..] of the next one its first bytes alone (so many)", TermsOfWritesTest::tornHeads);
        says("(it is not GOOD then)", TermsOfWritesTest::tornOnesAreNotGood);
        says("the others not at all", TermsOfWritesTest::othersNotAtAll);
        says("Everything else is forgotten", TermsOfWritesTest::forgotten);
        says("and the disk is SHUT, until a START", TermsOfWritesTest::shutUntilAStart);
        CHECK.done();
    }
}
