import java.util.NoSuchElementException;

/** Promises 2, 3, 4 and 10 to 13: each of their sentences with its own test. */
public final class PromisesOfFilesTest {
    private static final Check CHECK = new Check();

    private static final int[] NO_NAMES = {-1, 1000, Integer.MIN_VALUE, Integer.MAX_VALUE, 65536};

    private interface OnName {
        long call(PageDisk disk, int name);
    }

    private static PageDisk sixOpen() {
        PageDisk disk = new PageDisk(40);
        for (int name = 0; name < 6; name++) {
            disk.file(name);
        }
        return disk;
    }

    private static PageDisk oneOpen(int sectors, int rows) {
        PageDisk disk = new PageDisk(sectors);
        disk.file(1);
        Given.addRows(disk, rows);
        return disk;
    }

    private static void filesOpen() {
        PageDisk disk = new PageDisk(40);
        for (int version = 1; version <= 12; version++) {
            CHECK.same("version " + version, disk.file(3), version);
            CHECK.same("open", disk.space(6), 1);
            CHECK.same("its end", disk.end(3), version);
        }
    }

    private static void sixAtMost() {
        PageDisk six = sixOpen();
        CHECK.keeps("a seventh", six, 0, () -> six.file(6));
        CHECK.fails("one of the six: it is open", IllegalStateException.class, () -> six.file(5));
        six.end(5);
        CHECK.same("a sixth", six.file(6), 1);
    }

    private static void noRoomForAFile() {
        PageDisk just = Given.rows(8, 2);
        CHECK.same("room just so", just.file(1), 1);
        PageDisk none = Given.rows(8, 3);
        CHECK.keeps("a sector too few", none, 0, () -> none.file(1));
        PageDisk full = Given.rows(8, 6);
        CHECK.keeps("a full disk", full, 0, () -> full.file(1));
    }

    private static void noVersionAbove() {
        PageDisk last = Given.started(20, craft -> {
            craft.end(2, 1, 7, 9998, 0);
            craft.piece(3, 1, 8, 9999, 1);
            craft.end(4, 1, 9, 9999, 0);
        });
        CHECK.same("9999", last.file(7), 9999);
        CHECK.same("its end", last.end(7), 9999);
        CHECK.keeps("above it", last, 0, () -> last.file(7));
        CHECK.keeps("above a piece's", last, 0, () -> last.file(8));
        CHECK.keeps("above an end's", last, 0, () -> last.file(9));
        CHECK.same("another name", last.file(6), 1);
    }

    private static void names() {
        PageDisk disk = new PageDisk(40);
        for (int name : NO_NAMES) {
            CHECK.refuses("file(" + name + ")", disk, IllegalArgumentException.class, () -> disk.file(name));
        }
        CHECK.same("name 0", disk.file(0), 1);
        CHECK.same("name 999", disk.file(999), 1);
        PageDisk six = sixOpen();
        CHECK.refuses("file(1000) with six open", six, IllegalArgumentException.class, () -> six.file(1000));
        PageDisk full = Given.rows(8, 6);
        CHECK.refuses("file(-1) without room", full, IllegalArgumentException.class, () -> full.file(-1));
    }

    private static void openAlready() {
        PageDisk disk = new PageDisk(40);
        disk.file(0);
        CHECK.refuses("file(0) again", disk, IllegalStateException.class, () -> disk.file(0));
        disk.append(0, (byte) 1);
        CHECK.refuses("file(0) with a byte", disk, IllegalStateException.class, () -> disk.file(0));
        disk.end(0);
        CHECK.same("behind its end", disk.file(0), 2);
        PageDisk tight = oneOpen(8, 5);
        CHECK.refuses("one that is open, without room", tight, IllegalStateException.class, () -> tight.file(1));
    }

    private static void noFileWhenShut() {
        PageDisk disk = new PageDisk(40);
        disk.file(0);
        disk.cut(9, 0);
        CHECK.refuses("file(0) when shut", disk, IllegalStateException.class, () -> disk.file(0));
        CHECK.refuses("file(5) when shut", disk, IllegalStateException.class, () -> disk.file(5));
        CHECK.refuses("file(1000) when shut", disk, IllegalArgumentException.class, () -> disk.file(1000));
        disk.start();
        CHECK.same("behind the start", disk.file(0), 1);
    }

    private static void appends() {
        PageDisk disk = new PageDisk(20);
        disk.file(7);
        disk.file(8);
        for (int i = 0; i < 120; i++) {
            CHECK.same("append " + i, disk.append(7, (byte) (i * 3)), 1);
            CHECK.same("append " + i + " to the other", disk.append(8, (byte) -i), 1);
        }
        disk.end(7);
        disk.end(8);
        for (int i = 0; i < 120; i++) {
            CHECK.same("byte " + i, disk.at(7, 1, i), (byte) (i * 3));
        }
        CHECK.same("the other's first", disk.at(8, 1, 0), 0);
        CHECK.same("the other's last", disk.at(8, 1, 119), -119);
    }

    /** No 512 calls reach so far; the promise is built all the same. */
    private static void fullFile() {
        PageDisk disk = new PageDisk(160);
        disk.file(1);
        for (int i = 0; i < 2000; i++) {
            CHECK.same("append " + i, disk.append(1, (byte) i), 1);
        }
        CHECK.keeps("append 2000", disk, 0, () -> disk.append(1, (byte) 1));
        CHECK.same("end", disk.end(1), 1);
        CHECK.same("size", disk.size(1, 1), 2000);
        CHECK.same("the last byte", disk.at(1, 1, 1999), (byte) 1999);
        CHECK.fails("byte 2000", ArrayIndexOutOfBoundsException.class, () -> disk.at(1, 1, 2000));
        disk.cut(99, 0);
        CHECK.same("start", disk.start(), 1);
        CHECK.same("size behind a start", disk.size(1, 1), 2000);
    }

    private static void noRoomForAByte() {
        PageDisk none = oneOpen(8, 2);
        CHECK.keeps("a first byte a sector too late", none, 0, () -> none.append(1, (byte) 1));
        CHECK.same("the end of none", none.end(1), 1);
        CHECK.same("it has no byte", none.size(1, 1), 0);
        PageDisk just = oneOpen(8, 1);
        CHECK.same("a first byte just so", just.append(1, (byte) 1), 1);
        Given.addRows(just, 3);
        CHECK.same("no first one, in no room", just.append(1, (byte) 2), 1);
        CHECK.same("the end of two", just.end(1), 1);
        CHECK.same("it has two bytes", just.size(1, 1), 2);
    }

    private static void notOpen(String what, OnName call) {
        PageDisk disk = new PageDisk(20);
        disk.file(5);
        disk.append(5, (byte) 1);
        for (int name : NO_NAMES) {
            CHECK.refuses(what + " of " + name, disk, NoSuchElementException.class, () -> call.call(disk, name));
        }
        CHECK.refuses(what + " of one that never was", disk, NoSuchElementException.class, () -> call.call(disk, 4));
        CHECK.refuses(what + " of name 0", disk, NoSuchElementException.class, () -> call.call(disk, 0));
        disk.end(5);
        CHECK.refuses(what + " behind its end", disk, NoSuchElementException.class, () -> call.call(disk, 5));
        disk.file(6);
        disk.cut(99, 0);
        CHECK.refuses(what + " when shut", disk, NoSuchElementException.class, () -> call.call(disk, 6));
        disk.start();
        CHECK.refuses(what + " of a whole one", disk, NoSuchElementException.class, () -> call.call(disk, 5));
        CHECK.refuses(what + " of a forgotten one", disk, NoSuchElementException.class, () -> call.call(disk, 6));
    }

    private static void appendOfNone() {
        notOpen("append", (disk, name) -> disk.append(name, (byte) 1));
    }

    private static void endOfNone() {
        notOpen("end", PageDisk::end);
    }

    private static void ends() {
        PageDisk disk = Given.started(8, craft -> craft.end(2, 1, 999, 9998, 0));
        disk.file(999);
        disk.file(0);
        CHECK.same("end(999)", disk.end(999), 9999);
        CHECK.same("open", disk.space(6), 1);
        CHECK.same("whole", disk.space(5), 2);
        CHECK.same("up to the end", disk.space(1), 4);
        Given.addRows(disk, 3);
        CHECK.same("no room for more", disk.row(1, 1), -1);
        CHECK.same("but for an end", disk.end(0), 1);
        CHECK.same("the disk is full", disk.space(1), 8);
        CHECK.same("of an empty one", disk.size(0, 1), 0);
    }

    /** Versions of name 7: 1 empty, 2 of three bytes, 3 torn, 4 without an end; of name 8: 1 torn. */
    private static PageDisk allKinds() {
        return Given.started(20, craft -> {
            craft.end(2, 1, 7, 1, 0);
            craft.piece(3, 1, 7, 2, 128, 200, 127);
            craft.end(4, 1, 7, 2, 3);
            craft.piece(5, 1, 7, 3, 1);
            craft.end(6, 1, 7, 3, 2);
            craft.piece(7, 1, 7, 4, 1);
            craft.end(8, 1, 8, 1, 1);
        });
    }

    private static void bytes() {
        PageDisk disk = allKinds();
        CHECK.keeps("the first byte", disk, -128, () -> disk.at(7, 2, 0));
        CHECK.keeps("the second byte", disk, -56, () -> disk.at(7, 2, 1));
        CHECK.keeps("the last byte", disk, 127, () -> disk.at(7, 2, 2));
        PageDisk pieces = new PageDisk(20);
        Given.version(pieces, 1, 101);
        int[] places = {0, 1, 48, 49, 50, 51, 98, 99, 100};
        for (int i : places) {
            CHECK.same("byte " + i + " of three pieces", pieces.at(1, 1, i), (byte) (i * 7 + 1));
        }
    }

    private static void noByte(PageDisk disk, String what, int name, int version, int i) {
        CHECK.refuses(what, disk, ArrayIndexOutOfBoundsException.class, () -> disk.at(name, version, i));
    }

    private static void noVersion() {
        PageDisk disk = allKinds();
        noByte(disk, "a torn one", 7, 3, 0);
        noByte(disk, "one without an end", 7, 4, 0);
        noByte(disk, "version 0", 7, 0, 0);
        noByte(disk, "version -1", 7, -1, 0);
        noByte(disk, "a version that is none", 7, 5, 0);
        noByte(disk, "version 10000", 7, 10000, 0);
        noByte(disk, "a version with 65536 more", 7, 65538, 0);
        noByte(disk, "a name that is none", 9, 2, 0);
        noByte(disk, "name -1", -1, 2, 0);
        noByte(disk, "name 1000", 1000, 2, 0);
        noByte(disk, "a name with 65536 more", 65543, 2, 0);
        noByte(disk, "least numbers", Integer.MIN_VALUE, Integer.MIN_VALUE, 0);
        disk.file(9);
        disk.append(9, (byte) 1);
        noByte(disk, "one that is open", 9, 1, 0);
        disk.cut(0, 0);
        noByte(disk, "when shut", 7, 2, 0);
        noByte(new PageDisk(8), "on a new disk", 0, 1, 0);
    }

    private static void noSuchByte() {
        PageDisk disk = allKinds();
        noByte(disk, "the byte before", 7, 2, -1);
        noByte(disk, "the byte behind", 7, 2, 3);
        noByte(disk, "byte MIN", 7, 2, Integer.MIN_VALUE);
        noByte(disk, "byte MAX", 7, 2, Integer.MAX_VALUE);
        noByte(disk, "a byte of an empty one", 7, 1, 0);
        noByte(disk, "the byte before of an empty one", 7, 1, -1);
        noByte(disk, "byte -2 of a torn one", 7, 3, -2);
        PageDisk exact = new PageDisk(20);
        Given.version(exact, 1, 100);
        noByte(exact, "the byte behind two full pieces", 1, 1, 100);
    }

    private static void sizes() {
        PageDisk disk = allKinds();
        CHECK.keeps("three", disk, 3, () -> disk.size(7, 2));
        CHECK.keeps("none", disk, 0, () -> disk.size(7, 1));
        disk.file(9);
        disk.append(9, (byte) 1);
        disk.end(9);
        CHECK.same("one that has ended", disk.size(9, 1), 1);
    }

    private static void sizesOfTorn() {
        PageDisk disk = allKinds();
        CHECK.keeps("a torn one", disk, -2, () -> disk.size(7, 3));
        CHECK.keeps("a torn one without bytes", disk, -2, () -> disk.size(8, 1));
    }

    private static void sizesOfNone() {
        PageDisk disk = allKinds();
        int[][] none = {{7, 4}, {7, 0}, {7, -1}, {7, 5}, {7, 10000}, {7, 65538}, {9, 1}, {-1, 1}, {1000, 1}, {65543, 2},
            {-1, -1}, {Integer.MIN_VALUE, Integer.MAX_VALUE}};
        for (int[] one : none) {
            CHECK.keeps("size(" + one[0] + ", " + one[1] + ")", disk, -1, () -> disk.size(one[0], one[1]));
        }
        disk.file(9);
        disk.append(9, (byte) 1);
        CHECK.same("one that is open", disk.size(9, 1), -1);
        disk.cut(0, 0);
        CHECK.same("a whole one when shut", disk.size(7, 2), -1);
        CHECK.same("a torn one when shut", disk.size(7, 3), -1);
        CHECK.same("any on a new disk", new PageDisk(8).size(0, 1), -1);
    }

    private static void latest() {
        PageDisk disk = allKinds();
        CHECK.keeps("a torn one, below one without an end", disk, 3, () -> disk.latest(7));
        CHECK.keeps("a torn one alone", disk, 1, () -> disk.latest(8));
        CHECK.same("file(7)", disk.file(7), 5);
        CHECK.same("one that is open is none", disk.latest(7), 3);
        disk.end(7);
        CHECK.same("one that has ended", disk.latest(7), 5);
        PageDisk order = Given.started(20, craft -> {
            craft.end(2, 1, 3, 9999, 0);
            craft.end(3, 1, 3, 40, 0);
            craft.end(4, 1, 3, 41, 7);
        });
        CHECK.same("the greatest, not the last", order.latest(3), 9999);
    }

    private static void latestOfNone() {
        PageDisk disk = allKinds();
        int[] none = {0, 6, 9, 999, 1000, -1, Integer.MIN_VALUE, Integer.MAX_VALUE, 65543};
        for (int name : none) {
            CHECK.keeps("latest(" + name + ")", disk, 0, () -> disk.latest(name));
        }
        disk.cut(0, 0);
        CHECK.same("when shut", disk.latest(7), 0);
        PageDisk piece = Given.started(8, craft -> craft.piece(2, 1, 4, 6, 1));
        CHECK.same("a piece without an end", piece.latest(4), 0);
        CHECK.same("on a new disk", new PageDisk(8).latest(0), 0);
    }

    /** Whole ones of 500, 600 and 999; 3 is torn, 2 has no end. */
    private static PageDisk threeNames() {
        return Given.started(40, craft -> {
            craft.end(2, 1, 500, 1, 0);
            craft.end(3, 1, 999, 1, 0);
            craft.end(4, 1, 3, 1, 1);
            craft.end(5, 1, 500, 2, 0);
            craft.piece(6, 1, 2, 1, 1);
            craft.end(7, 1, 600, 1, 0);
            craft.end(8, 1, 600, 2, 1);
        });
    }

    private static void folder() {
        PageDisk disk = threeNames();
        disk.file(0);
        int[] due = {500, 600, 999};
        for (int i = 0; i < due.length; i++) {
            int place = i;
            CHECK.keeps("folder(" + i + ")", disk, due[i], () -> disk.folder(place));
        }
        disk.end(0);
        CHECK.same("a new one is the least", disk.folder(0), 0);
        Given.version(disk, 501, 0);
        CHECK.same("a new one between", disk.folder(2), 501);
        CHECK.same("the last one", disk.folder(4), 999);
        disk.cut(99, 0);
        disk.start();
        CHECK.same("the first behind a start", disk.folder(0), 0);
        CHECK.same("the last behind a start", disk.folder(4), 999);
    }

    private static void folderOfNone() {
        PageDisk disk = threeNames();
        int[] none = {3, 4, -1, -2, Integer.MIN_VALUE, Integer.MAX_VALUE};
        for (int i : none) {
            CHECK.keeps("folder(" + i + ")", disk, -1, () -> disk.folder(i));
        }
        disk.cut(99, 0);
        CHECK.same("when shut", disk.folder(0), -1);
        CHECK.same("on a new disk", new PageDisk(8).folder(0), -1);
        PageDisk torn = Given.started(8, craft -> craft.end(2, 1, 3, 1, 1));
        CHECK.same("torn ones alone", torn.folder(0), -1);
    }

    private static void says(int promise, String words, Check.Test test) {
        CHECK.sentence("Promise " + promise, words, test);
    }

    public static void main(String[] args) {
        says(2, "A file opens: its VERSION", PromisesOfFilesTest::filesOpen);
        says(2, "0 when there are 6", PromisesOfFilesTest::sixAtMost);
        says(2, "or no ROOM", PromisesOfFilesTest::noRoomForAFile);
        says(2, "or its VERSION would be above 9999", PromisesOfFilesTest::noVersionAbove);
        says(2, "IllegalArgumentException: the NAME", PromisesOfFilesTest::names);
        says(2, "IllegalStateException when it is OPEN", PromisesOfFilesTest::openAlready);
        says(2, "or the disk SHUT", PromisesOfFilesTest::noFileWhenShut);
        says(3, "A byte behind those of an OPEN file: 1", PromisesOfFilesTest::appends);
        says(3, "0 when it has 2000", PromisesOfFilesTest::fullFile);
        says(3, "or there is no ROOM", PromisesOfFilesTest::noRoomForAByte);
        says(3, "NoSuchElementException when it is not OPEN", PromisesOfFilesTest::appendOfNone);
        says(4, "An OPEN file ends: its VERSION", PromisesOfFilesTest::ends);
        says(4, "NoSuchElementException when it is not OPEN", PromisesOfFilesTest::endOfNone);
        says(10, "Byte i of a VERSION that is WHOLE", PromisesOfFilesTest::bytes);
        says(10, "ArrayIndexOutOfBoundsException when there is none such", PromisesOfFilesTest::noVersion);
        says(10, "or no such byte", PromisesOfFilesTest::noSuchByte);
        says(11, "How many bytes a VERSION has", PromisesOfFilesTest::sizes);
        says(11, "-2 when it is TORN", PromisesOfFilesTest::sizesOfTorn);
        says(11, "-1 when there is none such", PromisesOfFilesTest::sizesOfNone);
        says(12, "The greatest VERSION of a NAME, WHOLE or TORN", PromisesOfFilesTest::latest);
        says(12, "0 when there is none", PromisesOfFilesTest::latestOfNone);
        says(13, "The i-th of all NAMES with a VERSION that is WHOLE, the least first", PromisesOfFilesTest::folder);
        says(13, "-1 when there is none such", PromisesOfFilesTest::folderOfNone);
        CHECK.done();
    }
}
