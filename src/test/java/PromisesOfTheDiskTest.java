import java.util.NoSuchElementException;

/** Promises 1, 5 to 9 and 14 to 18: each of their sentences with its own test. */
public final class PromisesOfTheDiskTest {
    private static final Check CHECK = new Check();

    private static final int MIN = Integer.MIN_VALUE;
    private static final int MAX = Integer.MAX_VALUE;

    private static void sectors() {
        for (int sectors = -200; sectors < 400; sectors++) {
            int due = sectors < 8 ? 8 : sectors > 160 ? 160 : sectors;
            PageDisk disk = new PageDisk(sectors);
            CHECK.same("new " + sectors, disk.space(0), due);
            CHECK.same("its last byte", disk.look(due - 1, 63), 0);
            CHECK.fails("a sector more", IndexOutOfBoundsException.class, () -> disk.look(due, 0));
        }
        CHECK.same("new MIN", new PageDisk(MIN).space(0), 8);
        CHECK.same("new MAX", new PageDisk(MAX).space(0), 160);
        PageDisk most = Given.rows(MAX, 158);
        CHECK.same("rows of the largest", most.space(4), 158);
        CHECK.same("a row more", most.row(1, 1), -1);
        PageDisk fewest = Given.rows(MIN, 6);
        CHECK.same("rows of the smallest", fewest.space(4), 6);
        CHECK.same("a row more", fewest.row(1, 1), -1);
    }

    private static void newObject() {
        PageDisk disk = new PageDisk(20);
        CHECK.space("new", disk, 20, 2, 0, 2, 0, 0, 0, 1, 0, 0);
        CHECK.same("no name", disk.folder(0), -1);
        CHECK.same("no wrong one", disk.wrong(-1), 0);
        CHECK.fails("no row", IndexOutOfBoundsException.class, () -> disk.job(0, 0));
        CHECK.fails("start", IllegalStateException.class, disk::start);
        disk.row(1, 1);
        disk.sync();
        CHECK.sector("the first write", disk, 2, Craft.rowBytes(2, 1, 1, 1));
        CHECK.sector("the first head", disk, 1, Craft.headBytes(1, 1, 3));
    }

    private static void rowNumbers() {
        PageDisk disk = new PageDisk(160);
        for (int i = 0; i < 158; i++) {
            CHECK.same("row " + i, disk.row(i, -i), i);
        }
    }

    private static void noRoomForARow() {
        PageDisk full = Given.rows(8, 6);
        CHECK.keeps("a row more", full, -1, () -> full.row(0, 0));
        PageDisk open = new PageDisk(8);
        open.file(1);
        Given.addRows(open, 4);
        CHECK.same("the last but an end", open.row(1, 1), 4);
        CHECK.keeps("an end's sector", open, -1, () -> open.row(1, 1));
    }

    private static void kinds() {
        int[] kinds = {-1, 256, MIN, MAX, -256};
        PageDisk disk = new PageDisk(8);
        PageDisk full = Given.rows(8, 6);
        for (int kind : kinds) {
            CHECK.refuses("row(" + kind + ", 0)", disk, IllegalArgumentException.class, () -> disk.row(kind, 0));
            CHECK.refuses("without room", full, IllegalArgumentException.class, () -> full.row(kind, 0));
        }
        CHECK.same("kind 0", disk.row(0, Long.MIN_VALUE), 0);
        CHECK.same("kind 255", disk.row(255, Long.MAX_VALUE), 1);
    }

    private static void noRowWhenShut() {
        PageDisk disk = Given.rows(8, 2);
        disk.cut(9, 0);
        CHECK.refuses("row(1, 0)", disk, IllegalStateException.class, () -> disk.row(1, 0));
        CHECK.refuses("row(256, 0)", disk, IllegalArgumentException.class, () -> disk.row(256, 0));
        disk.start();
        CHECK.same("behind a start", disk.row(1, 0), 2);
    }

    private static void statesBefore() {
        PageDisk disk = Given.rows(20, 2);
        CHECK.same("0 at first", disk.state(1, 8), 0);
        CHECK.same("8", disk.state(1, 8), 8);
        CHECK.same("8 again", disk.state(1, 1), 8);
        CHECK.same("1", disk.state(1, 3), 1);
        CHECK.same("the other row's", disk.state(0, 1), 0);
        CHECK.same("each is written", disk.space(2), 7);
        CHECK.same("told", disk.job(1, 2), 3);
        disk.cut(6, 0);
        disk.start();
        CHECK.same("the one that a start found", disk.state(1, 5), 3);
        CHECK.same("the one that did not come", disk.state(0, 5), 0);
    }

    private static void noRoomForAState() {
        PageDisk full = Given.rows(8, 6);
        CHECK.keeps("a full disk", full, -1, () -> full.state(0, 1));
        PageDisk open = new PageDisk(8);
        open.file(1);
        Given.addRows(open, 4);
        CHECK.same("the last but an end", open.state(3, 6), 0);
        CHECK.keeps("an end's sector", open, -1, () -> open.state(3, 7));
        CHECK.same("told", open.job(3, 2), 6);
    }

    private static void noSuchRow() {
        PageDisk disk = Given.rows(20, 2);
        int[] noRows = {2, -1, MIN, MAX, 65536};
        for (int row : noRows) {
            CHECK.refuses("state(" + row + ", 1)", disk, NoSuchElementException.class, () -> disk.state(row, 1));
            CHECK.refuses("state(" + row + ", 10)", disk, NoSuchElementException.class, () -> disk.state(row, 10));
        }
        PageDisk none = new PageDisk(8);
        CHECK.refuses("no row at all", none, NoSuchElementException.class, () -> none.state(0, 1));
        PageDisk full = Given.rows(8, 6);
        CHECK.refuses("row 6 without room", full, NoSuchElementException.class, () -> full.state(6, 1));
        disk.cut(0, 0);
        CHECK.refuses("when shut", disk, NoSuchElementException.class, () -> disk.state(0, 1));
        CHECK.refuses("a wrong state when shut", disk, NoSuchElementException.class, () -> disk.state(0, 10));
    }

    private static void noSuchState() {
        PageDisk disk = Given.rows(20, 2);
        PageDisk full = Given.rows(8, 6);
        int[] noStates = {-1, 10, MIN, MAX, 256};
        for (int state : noStates) {
            CHECK.refuses("state(0, " + state + ")", disk, IllegalArgumentException.class, () -> disk.state(0, state));
            CHECK.refuses("without room", full, IllegalArgumentException.class, () -> full.state(0, state));
        }
        CHECK.same("state 9", disk.state(1, 9), 0);
        CHECK.same("state 0", disk.state(1, 0), 9);
    }

    private static void syncedSectors() {
        for (int rows = 1; rows <= 6; rows++) {
            CHECK.same("the sync of " + rows, Given.rows(8, rows).sync(), rows + 1);
        }
        PageDisk most = Given.rows(160, 158);
        CHECK.same("the sync of a full disk", most.sync(), 159);
        CHECK.same("all are acknowledged", most.space(3), 160);
        PageDisk disk = new PageDisk(20);
        Given.version(disk, 1, 51);
        CHECK.same("two pieces and an end", disk.sync(), 4);
        disk.row(1, 1);
        CHECK.same("one more", disk.sync(), 2);
    }

    private static void syncOfNone() {
        PageDisk fresh = new PageDisk(8);
        CHECK.keeps("sync of a new one", fresh, 0, fresh::sync);
        PageDisk full = Given.rows(8, 6);
        full.sync();
        CHECK.keeps("sync of a full disk again", full, 0, full::sync);
        full.cut(0, 0);
        full.start();
        CHECK.keeps("sync behind a start", full, 0, full::sync);
    }

    private static void noSyncWhenShut() {
        PageDisk disk = Given.rows(8, 2);
        disk.cut(1, 0);
        CHECK.refuses("sync", disk, IllegalStateException.class, disk::sync);
        disk.start();
        CHECK.same("sync behind a start", disk.sync(), 0);
    }

    private static void cuts() {
        for (int keep = 0; keep < 5; keep++) {
            for (int tear = 0; tear < 64; tear += 21) {
                PageDisk disk = Given.rows(8, 2);
                CHECK.same("cut(" + keep + ", " + tear + ")", disk.cut(keep, tear), Math.min(keep, 3));
                disk.start();
                CHECK.same("rows", disk.space(4), Math.min(keep, 2));
                CHECK.same("acknowledged", disk.space(3), keep >= 3 ? 4 : 2);
            }
        }
        CHECK.same("of none", new PageDisk(8).cut(3, 3), 0);
        CHECK.same("cut(MAX, 63)", Given.rows(8, 2).cut(MAX, 63), 3);
    }

    private static void keepBelowZero() {
        PageDisk disk = Given.rows(8, 2);
        disk.file(1);
        CHECK.refuses("cut(-1, 1)", disk, IllegalArgumentException.class, () -> disk.cut(-1, 1));
        CHECK.refuses("cut(MIN, 1)", disk, IllegalArgumentException.class, () -> disk.cut(MIN, 1));
        PageDisk none = new PageDisk(8);
        CHECK.refuses("cut(-1, 1) of none", none, IllegalArgumentException.class, () -> none.cut(-1, 1));
        CHECK.same("cut(0, 1)", disk.cut(0, 1), 0);
    }

    private static void noSuchTear() {
        PageDisk disk = Given.rows(8, 2);
        disk.file(1);
        int[] noTears = {-1, 64, MIN, MAX};
        for (int tear : noTears) {
            CHECK.refuses("cut(0, " + tear + ")", disk, IllegalArgumentException.class, () -> disk.cut(0, tear));
            CHECK.refuses("cut(9, " + tear + ")", disk, IllegalArgumentException.class, () -> disk.cut(9, tear));
        }
        PageDisk none = new PageDisk(8);
        CHECK.refuses("cut(0, 64) of none", none, IllegalArgumentException.class, () -> none.cut(0, 64));
    }

    private static void noCutWhenShut() {
        PageDisk disk = Given.rows(8, 2);
        disk.cut(1, 1);
        CHECK.refuses("cut(0, 1)", disk, IllegalStateException.class, () -> disk.cut(0, 1));
        CHECK.refuses("cut(-1, 1)", disk, IllegalArgumentException.class, () -> disk.cut(-1, 1));
        CHECK.refuses("cut(0, 64)", disk, IllegalArgumentException.class, () -> disk.cut(0, 64));
    }

    private static void starts() {
        PageDisk disk = Given.shut(20, craft -> {
            craft.end(2, 1, 1, 1, 0);
            craft.end(3, 1, 1, 2, 0);
            craft.end(4, 1, 2, 1, 1);
            craft.piece(5, 1, 3, 1, 1);
            craft.end(6, 1, 4, 1, 0);
        });
        CHECK.same("three", disk.start(), 3);
        CHECK.same("told by space, too", disk.space(5), 3);
        disk.cut(0, 0);
        CHECK.same("three again", disk.start(), 3);
        CHECK.same("none", Given.shut(8, craft -> { }).start(), 0);
        PageDisk many = Given.shut(160, craft -> {
            for (int sector = 2; sector < 40; sector++) {
                craft.end(sector, 0, 0, sector, 0);
            }
        });
        CHECK.same("38 of one name", many.start(), 38);
    }

    private static void noStartOfOneThatIsNotShut() {
        PageDisk fresh = new PageDisk(8);
        CHECK.refuses("start of a new one", fresh, IllegalStateException.class, fresh::start);
        PageDisk busy = Given.rows(8, 2);
        busy.file(1);
        busy.append(1, (byte) 1);
        CHECK.refuses("start of a busy one", busy, IllegalStateException.class, busy::start);
        busy.cut(0, 0);
        busy.start();
        CHECK.refuses("start again", busy, IllegalStateException.class, busy::start);
    }

    private static void jobs() {
        PageDisk disk = new PageDisk(20);
        disk.row(255, Long.MIN_VALUE);
        disk.row(0, Long.MAX_VALUE);
        disk.row(7, -1);
        disk.state(1, 9);
        long[][] due = {{255, Long.MIN_VALUE, 0}, {0, Long.MAX_VALUE, 9}, {7, -1, 0}};
        for (int round = 0; round < 2; round++) {
            for (int row = 0; row < 3; row++) {
                for (int what = 0; what < 3; what++) {
                    int r = row;
                    int w = what;
                    CHECK.keeps("job(" + r + ", " + w + ")", disk, due[r][w], () -> disk.job(r, w));
                }
            }
            disk.cut(99, 0);
            disk.start();
        }
    }

    private static void noJobs() {
        PageDisk disk = Given.rows(20, 3);
        int[][] none = {{3, 0}, {-1, 0}, {MIN, 1}, {MAX, 2}, {0, 3}, {0, -1}, {0, MIN}, {0, MAX}, {3, 3}, {-1, -1}};
        for (int[] one : none) {
            String what = "job(" + one[0] + ", " + one[1] + ")";
            CHECK.refuses(what, disk, IndexOutOfBoundsException.class, () -> disk.job(one[0], one[1]));
        }
        disk.cut(9, 0);
        CHECK.refuses("when shut", disk, IndexOutOfBoundsException.class, () -> disk.job(0, 0));
        PageDisk fresh = new PageDisk(8);
        CHECK.refuses("of a new one", fresh, IndexOutOfBoundsException.class, () -> fresh.job(0, 0));
    }

    /** Five rows with their head; sectors 6 and 3 are altered then. */
    private static PageDisk altered() {
        PageDisk disk = Given.rows(20, 5);
        disk.sync();
        disk.poke(6, 20, 1);
        disk.poke(3, 0, 128);
        return disk;
    }

    private static PageDisk found() {
        PageDisk disk = altered();
        disk.cut(0, 0);
        disk.start();
        return disk;
    }

    private static void counted(String when, PageDisk disk, int count) {
        CHECK.keeps("how many " + when, disk, count, () -> disk.wrong(-1));
    }

    private static void wrongOnes() {
        PageDisk disk = found();
        CHECK.keeps("the first", disk, 3, () -> disk.wrong(0));
        CHECK.keeps("the second", disk, 6, () -> disk.wrong(1));
        PageDisk all = Given.started(160, craft -> craft.head(0, 2, 160));
        for (int i = 0; i < 158; i++) {
            CHECK.same("wrong(" + i + ") of all", all.wrong(i), 2 + i);
        }
    }

    private static void latestStart() {
        PageDisk disk = found();
        disk.poke(4, 20, 1);
        disk.row(1, 1);
        disk.sync();
        counted("behind a start, whatever is altered then", disk, 2);
        disk.poke(3, 0, 128);
        disk.cut(0, 0);
        disk.start();
        counted("behind the next start", disk, 2);
        CHECK.same("the first of the next start", disk.wrong(0), 4);
        CHECK.same("the second of the next start", disk.wrong(1), 6);
        disk.poke(4, 20, 1);
        disk.poke(6, 20, 1);
        disk.cut(0, 0);
        disk.start();
        counted("behind a start without one", disk, 0);
    }

    private static void noneBeforeAStart() {
        PageDisk disk = altered();
        counted("before a start", disk, 0);
        CHECK.refuses("wrong(0)", disk, IndexOutOfBoundsException.class, () -> disk.wrong(0));
        disk.cut(0, 0);
        counted("when shut, before a start", disk, 0);
        CHECK.refuses("wrong(0) when shut", disk, IndexOutOfBoundsException.class, () -> disk.wrong(0));
    }

    private static void shutAgain() {
        PageDisk disk = found();
        disk.cut(0, 0);
        counted("when shut again", disk, 2);
        CHECK.same("the first when shut again", disk.wrong(0), 3);
        CHECK.same("the second when shut again", disk.wrong(1), 6);
        CHECK.refuses("the third", disk, IndexOutOfBoundsException.class, () -> disk.wrong(2));
    }

    private static void howMany() {
        counted("of a new one", new PageDisk(8), 0);
        counted("of two", found(), 2);
        counted("of all", Given.started(160, craft -> craft.head(0, 2, 160)), 158);
        counted("of none", Given.started(8, craft -> { }), 0);
    }

    private static void noWrongOnes() {
        PageDisk disk = found();
        int[] none = {2, 3, -2, -3, MIN, MAX};
        for (int i : none) {
            CHECK.refuses("wrong(" + i + ")", disk, IndexOutOfBoundsException.class, () -> disk.wrong(i));
        }
        PageDisk fresh = new PageDisk(8);
        CHECK.refuses("wrong(0) of a new one", fresh, IndexOutOfBoundsException.class, () -> fresh.wrong(0));
        CHECK.refuses("wrong(-2) of a new one", fresh, IndexOutOfBoundsException.class, () -> fresh.wrong(-2));
    }

    private static PageDisk ofAllKinds() {
        PageDisk disk = new PageDisk(20);
        disk.row(1, 1);
        disk.sync();
        disk.row(1, 1);
        Given.version(disk, 1, 1);
        Given.version(disk, 1, 0);
        disk.file(2);
        disk.file(3);
        return disk;
    }

    private static void spaces() {
        CHECK.space("before any", new PageDisk(20), 20, 2, 0, 2, 0, 0, 0, 1, 0, 0);
        PageDisk disk = ofAllKinds();
        CHECK.space("of all kinds", disk, 20, 7, 4, 3, 2, 2, 2, 1, 1, 0);
        disk.sync();
        CHECK.space("synced", disk, 20, 7, 0, 7, 2, 2, 2, 1, 2, 0);
        disk.row(1, 1);
        disk.cut(1, 0);
        disk.start();
        CHECK.space("started", disk, 20, 8, 0, 7, 3, 2, 0, 2, 2, 0);
    }

    private static void latestHead() {
        PageDisk disk = Given.rows(20, 1);
        CHECK.same("none yet", disk.space(8), 0);
        disk.sync();
        CHECK.same("written", disk.space(8), 1);
        disk.row(1, 1);
        disk.sync();
        disk.cut(0, 0);
        disk.start();
        CHECK.same("told", disk.space(8), 2);
        disk.poke(0, 63, 1);
        CHECK.same("told, whatever is altered then", disk.space(8), 2);
        disk.cut(0, 0);
        disk.start();
        CHECK.same("the one before is told", disk.space(8), 1);
        disk.row(1, 1);
        CHECK.same("not written yet", disk.space(8), 1);
        disk.sync();
        CHECK.same("written again", disk.space(8), 2);
        disk.poke(0, 63, 1);
        disk.poke(1, 63, 1);
        disk.cut(0, 0);
        disk.start();
        CHECK.same("none is told", disk.space(8), 0);
    }

    private static void spaceWhenShut() {
        PageDisk disk = ofAllKinds();
        disk.sync();
        disk.row(1, 1);
        disk.cut(0, 0);
        CHECK.space("shut", disk, 20, 2, 0, 2, 0, 0, 0, 0, 0, 1);
        disk.poke(3, 63, 1);
        CHECK.space("shut and altered", disk, 20, 2, 0, 2, 0, 0, 0, 0, 0, 1);
        disk.start();
        disk.cut(0, 0);
        CHECK.space("shut again", disk, 20, 2, 0, 2, 0, 0, 0, 0, 0, 1);
        for (int what = 0; what < 10; what++) {
            int it = what;
            CHECK.keeps("space(" + it + ") when shut", disk, disk.space(it), () -> disk.space(it));
        }
    }

    private static void noSpace() {
        PageDisk disk = Given.rows(8, 2);
        int[] others = {-1, 10, MIN, MAX};
        for (int what : others) {
            CHECK.refuses("space(" + what + ")", disk, IllegalArgumentException.class, () -> disk.space(what));
        }
        disk.cut(0, 0);
        for (int what : others) {
            CHECK.refuses("space(" + what + "), shut", disk, IllegalArgumentException.class, () -> disk.space(what));
        }
    }

    /** Of a disk with 9 sectors. */
    private static final int[][] NO_BYTES = {{-1, 0}, {9, 0}, {0, -1}, {0, 64}, {8, 64}, {9, -64}, {MIN, 0}, {MAX, 0},
        {0, MIN}, {0, MAX}, {1 << 26, 0}, {-1, 64}, {1, -64}};

    private static void pokes() {
        PageDisk disk = new PageDisk(9);
        CHECK.same("mask 255", disk.poke(0, 0, 255), 255);
        CHECK.same("mask 1", disk.poke(0, 0, 1), 254);
        CHECK.same("mask 254", disk.poke(0, 0, 254), 0);
        CHECK.same("the last byte", disk.poke(8, 63, 128), 128);
        CHECK.same("is altered", disk.look(8, 63), 128);
        CHECK.same("the one before is not", disk.look(8, 62), 0);
        disk.row(1, 1);
        disk.sync();
        CHECK.same("a byte that was written", disk.poke(2, 6, 2), 3);
        CHECK.same("what is known stays", disk.job(0, 0), 1);
        disk.cut(0, 0);
        CHECK.same("when shut", disk.poke(2, 6, 2), 1);
        disk.start();
        CHECK.same("a row whose byte is right again", disk.space(4), 1);
    }

    private static void pokesWhereWritesWait() {
        PageDisk disk = Given.rows(9, 2);
        CHECK.same("poke", disk.poke(2, 6, 7), 7);
        CHECK.same("it is on the disk", disk.look(2, 6), 7);
        CHECK.same("but not in what waits", disk.job(0, 0), 1);
        disk.poke(1, 4, 7);
        disk.sync();
        CHECK.sector("which comes to the disk as it was", disk, 2, Craft.rowBytes(2, 1, 1, 0));
        CHECK.sector("and its head, too", disk, 1, Craft.headBytes(1, 1, 4));
    }

    private static void noByteToPoke() {
        PageDisk disk = new PageDisk(9);
        for (int[] one : NO_BYTES) {
            String what = "poke(" + one[0] + ", " + one[1] + ", ..)";
            CHECK.refuses(what, disk, IndexOutOfBoundsException.class, () -> disk.poke(one[0], one[1], 7));
            CHECK.refuses(what + ", a wrong mask", disk, IndexOutOfBoundsException.class,
                () -> disk.poke(one[0], one[1], 0));
        }
    }

    private static void noSuchMask() {
        PageDisk disk = new PageDisk(9);
        int[] noMasks = {0, 256, -1, MIN, MAX, 512, 257};
        for (int mask : noMasks) {
            CHECK.refuses("mask " + mask, disk, IllegalArgumentException.class, () -> disk.poke(2, 6, mask));
        }
    }

    private static void looks() {
        PageDisk disk = new PageDisk(9);
        for (int value = 1; value < 256; value++) {
            disk.poke(3, 5, value - 1 ^ value);
            CHECK.same("byte " + value, disk.look(3, 5), value);
        }
        PageDisk other = new PageDisk(9);
        other.row(254, -1);
        CHECK.keeps("not of what waits", other, 0, () -> other.look(2, 6));
        other.sync();
        CHECK.keeps("of the disk", other, 254, () -> other.look(2, 6));
        other.cut(0, 0);
        CHECK.keeps("when shut", other, 255, () -> other.look(2, 14));
    }

    private static void noByteToLookAt() {
        PageDisk disk = new PageDisk(9);
        for (int[] one : NO_BYTES) {
            String what = "look(" + one[0] + ", " + one[1] + ")";
            CHECK.refuses(what, disk, IndexOutOfBoundsException.class, () -> disk.look(one[0], one[1]));
        }
        int[][] corners = {{0, 0}, {0, 63}, {8, 0}, {8, 63}};
        for (int[] one : corners) {
            CHECK.keeps("a corner", disk, 0, () -> disk.look(one[0], one[1]));
        }
    }

    private static void says(int promise, String words, Check.Test test) {
        CHECK.sentence("Promise " + promise, words, test);
    }

    private static void saysOfCalls() {
        says(1, "A disk of so many SECTORS (8 .. 160; for other numbers the nearest of these)",
            PromisesOfTheDiskTest::sectors);
        says(1, "LIFE 1, GENERATION 0, nothing on it, not SHUT", PromisesOfTheDiskTest::newObject);
        says(5, "A ROW: its number, from 0 on", PromisesOfTheDiskTest::rowNumbers);
        says(5, "-1 when there is no ROOM", PromisesOfTheDiskTest::noRoomForARow);
        says(5, "IllegalArgumentException when kind is not 0 .. 255", PromisesOfTheDiskTest::kinds);
        says(5, "IllegalStateException when the disk is SHUT", PromisesOfTheDiskTest::noRowWhenShut);
        says(6, "A STATE of a ROW: the one that it had", PromisesOfTheDiskTest::statesBefore);
        says(6, "-1 when there is no ROOM", PromisesOfTheDiskTest::noRoomForAState);
        says(6, "NoSuchElementException (the ROW)", PromisesOfTheDiskTest::noSuchRow);
        says(6, "IllegalArgumentException (the STATE)", PromisesOfTheDiskTest::noSuchState);
        says(7, "A SYNC: how many SECTORS were written, the HEAD too", PromisesOfTheDiskTest::syncedSectors);
        says(7, "0 for none", PromisesOfTheDiskTest::syncOfNone);
        says(7, "IllegalStateException when the disk is SHUT", PromisesOfTheDiskTest::noSyncWhenShut);
        says(8, "A CUT that keeps so many writes and tears the next one behind so many bytes (0 .. 63): how many came whole",
            PromisesOfTheDiskTest::cuts);
        says(8, "IllegalArgumentException when keep is below 0", PromisesOfTheDiskTest::keepBelowZero);
        says(8, "or tear not such", PromisesOfTheDiskTest::noSuchTear);
        says(8, "IllegalStateException when the disk is SHUT", PromisesOfTheDiskTest::noCutWhenShut);
        says(9, "A START: how many VERSIONS are WHOLE", PromisesOfTheDiskTest::starts);
        says(9, "IllegalStateException when the disk is not SHUT", PromisesOfTheDiskTest::noStartOfOneThatIsNotShut);
    }

    private static void saysOfAnswers() {
        says(14, "Of a ROW: its kind (what = 0), value (1), STATE (2)", PromisesOfTheDiskTest::jobs);
        says(14, "IndexOutOfBoundsException", PromisesOfTheDiskTest::noJobs);
        says(15, "The i-th SECTOR that was WRONG [..] by numbers", PromisesOfTheDiskTest::wrongOnes);
        says(15, "in the latest START", PromisesOfTheDiskTest::latestStart);
        says(15, "(none before one", PromisesOfTheDiskTest::noneBeforeAStart);
        says(15, "also while it is SHUT again)", PromisesOfTheDiskTest::shutAgain);
        says(15, "i = -1: how many", PromisesOfTheDiskTest::howMany);
        says(15, "IndexOutOfBoundsException", PromisesOfTheDiskTest::noWrongOnes);
        says(16, "SECTORS (what = 0), those up to the end (1), that WAIT (2), ACKNOWLEDGED (3; 2 before any); ROWS (4), "
            + "VERSIONS that are WHOLE (5), OPEN files (6), LIFE (7), [..] whether the disk is SHUT (9; 1, 0)",
            PromisesOfTheDiskTest::spaces);
        says(16, "GENERATION of the latest HEAD that was written or told (8)", PromisesOfTheDiskTest::latestHead);
        says(16, "While it is SHUT, 1 and 3 are 2, 2 and 4 to 8 are 0", PromisesOfTheDiskTest::spaceWhenShut);
        says(16, "IllegalArgumentException for others", PromisesOfTheDiskTest::noSpace);
        says(17, "A byte of the disk [..] becomes its ^ with a mask (1 .. 255): it", PromisesOfTheDiskTest::pokes);
        says(17, "(not of what WAITS)", PromisesOfTheDiskTest::pokesWhereWritesWait);
        says(17, "IndexOutOfBoundsException when there is no such byte", PromisesOfTheDiskTest::noByteToPoke);
        says(17, "IllegalArgumentException", PromisesOfTheDiskTest::noSuchMask);
        says(18, "A byte of the disk, 0 .. 255", PromisesOfTheDiskTest::looks);
        says(18, "IndexOutOfBoundsException", PromisesOfTheDiskTest::noByteToLookAt);
    }

    public static void main(String[] args) {
        saysOfCalls();
        saysOfAnswers();
        CHECK.done();
    }
}
