import java.util.NoSuchElementException;

/** Promises 2, 3, 4, 10, 11, 12 and 13: files, their versions and the folder. */
public final class FilesTest {
    private static final Check CHECK = new Check();

    private static void appendMany(PageDisk disk, int name, int count) {
        for (int i = 0; i < count; i++) {
            CHECK.same("append " + i + " to " + name, disk.append(name, (byte) (i * 3 - 70)), 1);
        }
    }

    private static void opening() {
        PageDisk disk = new PageDisk(40);
        CHECK.same("file(0)", disk.file(0), 1);
        CHECK.same("file(999)", disk.file(999), 1);
        CHECK.fails("file(-1)", IllegalArgumentException.class, () -> disk.file(-1));
        CHECK.fails("file(1000)", IllegalArgumentException.class, () -> disk.file(1000));
        CHECK.fails("file(MIN)", IllegalArgumentException.class, () -> disk.file(Integer.MIN_VALUE));
        CHECK.fails("file(0) again", IllegalStateException.class, () -> disk.file(0));
        CHECK.space("an open file needs no sector yet", disk, 40, 2, 0, 2, 0, 0, 2, 1, 0, 0);
        CHECK.same("end(0)", disk.end(0), 1);
        CHECK.same("file(0), the next version", disk.file(0), 2);
        CHECK.same("an open file is no version", disk.size(0, 2), -1);
        CHECK.same("latest passes what is open", disk.latest(0), 1);
        disk.cut(0, 0);
        CHECK.fails("file(1000) when shut", IllegalArgumentException.class, () -> disk.file(1000));
        CHECK.fails("file(3) when shut", IllegalStateException.class, () -> disk.file(3));
    }

    private static void sixAtMost() {
        PageDisk disk = new PageDisk(160);
        for (int name = 10; name < 16; name++) {
            CHECK.same("file " + name, disk.file(name), 1);
        }
        CHECK.same("a seventh", disk.file(16), 0);
        CHECK.fails("one that is open, with six open", IllegalStateException.class, () -> disk.file(12));
        CHECK.same("end(12)", disk.end(12), 1);
        CHECK.same("one more now", disk.file(16), 1);
        CHECK.same("open files", disk.space(6), 6);
        CHECK.same("a version that is not given is not met", disk.end(16), 1);
    }

    private static void roomForFiles() {
        PageDisk disk = new PageDisk(8);
        CHECK.same("2 used, 1 need, 3 more", disk.file(1), 1);
        CHECK.same("2 needs", disk.file(2), 1);
        CHECK.same("3 needs fill the disk", disk.file(3), 1);
        CHECK.same("4 needs do not fit in", disk.file(4), 0);
        CHECK.same("nor does a first byte", disk.append(1, (byte) 1), 0);
        CHECK.same("a row asks for the needs alone", disk.row(1, 1), 0);
        CHECK.same("a second one", disk.row(1, 1), 1);
        CHECK.same("a third one", disk.row(1, 1), 2);
        CHECK.same("a fourth one does not fit in", disk.row(1, 1), -1);
        CHECK.same("nor a state", disk.state(0, 1), -1);
        CHECK.same("the state is as before", disk.job(0, 2), 0);
        CHECK.same("end(1)", disk.end(1), 1);
        CHECK.same("an end that fits in brings no room for a row", disk.row(1, 1), -1);
        CHECK.same("end(2)", disk.end(2), 1);
        CHECK.same("end(3)", disk.end(3), 1);
        CHECK.space("full", disk, 8, 8, 6, 2, 3, 3, 0, 1, 0, 0);
        CHECK.same("file on a full disk", disk.file(1), 0);
        CHECK.same("row on a full disk", disk.row(1, 1), -1);
        CHECK.same("sync of a full disk", disk.sync(), 7);
        CHECK.same("all are used", disk.look(1, 11), 8);
        disk.cut(0, 0);
        CHECK.same("start of a full disk", disk.start(), 3);
        CHECK.space("full after a start", disk, 8, 8, 0, 8, 3, 3, 0, 2, 1, 0);
        CHECK.same("file on a full disk after a start", disk.file(1), 0);
        CHECK.same("row on a full disk after a start", disk.row(1, 1), -1);
    }

    private static void roomForBytes() {
        PageDisk disk = new PageDisk(8);
        CHECK.same("file(1)", disk.file(1), 1);
        appendMany(disk, 1, 50);
        CHECK.space("the 50th byte writes a piece", disk, 8, 3, 1, 2, 0, 0, 1, 1, 0, 0);
        CHECK.same("the first byte of a piece that fits in just so", disk.append(1, (byte) 9), 1);
        CHECK.same("a row in what was spare", disk.row(1, 1), 0);
        appendMany(disk, 1, 48);
        CHECK.same("a byte that is no first one needs no room", disk.append(1, (byte) 9), 1);
        CHECK.same("a hundred are written", disk.space(1), 5);
        CHECK.same("the first byte of one that does not fit in", disk.append(1, (byte) 9), 0);
        CHECK.same("end(1)", disk.end(1), 1);
        CHECK.same("100 bytes have no rest", disk.space(1), 6);
        CHECK.same("size", disk.size(1, 1), 100);
    }

    private static void roomForRowsBesideBytes() {
        PageDisk disk = new PageDisk(8);
        disk.file(1);
        CHECK.same("one byte needs a sector beside the end's", disk.append(1, (byte) 1), 1);
        for (int row = 0; row < 3; row++) {
            CHECK.same("row " + row, disk.row(1, row), row);
        }
        CHECK.same("a state that fits in just so", disk.state(0, 1), 0);
        CHECK.same("a row more does not", disk.row(1, 9), -1);
        CHECK.same("nor a state", disk.state(0, 2), -1);
        CHECK.same("a byte that is no first one", disk.append(1, (byte) 2), 1);
        CHECK.same("end(1)", disk.end(1), 1);
        CHECK.space("full", disk, 8, 8, 6, 2, 3, 1, 0, 1, 0, 0);
        CHECK.same("size", disk.size(1, 1), 2);
    }

    /** Beyond the 512 calls that are promised: there is no other way to so many bytes by append. */
    private static void fullFile() {
        PageDisk disk = new PageDisk(160);
        disk.file(1);
        appendMany(disk, 1, 2000);
        CHECK.same("40 pieces wait", disk.space(2), 40);
        CHECK.same("the 2001st byte", disk.append(1, (byte) 1), 0);
        CHECK.same("end(1)", disk.end(1), 1);
        CHECK.same("size", disk.size(1, 1), 2000);
        CHECK.same("the last byte", disk.at(1, 1, 1999), (byte) (1999 * 3 - 70));
        disk.cut(99, 0);
        CHECK.same("start", disk.start(), 1);
        CHECK.same("size after a start", disk.size(1, 1), 2000);
        CHECK.same("the last byte after a start", disk.at(1, 1, 1999), (byte) (1999 * 3 - 70));
    }

    private static void appendAndEnd() {
        PageDisk disk = new PageDisk(40);
        CHECK.fails("append to none", NoSuchElementException.class, () -> disk.append(4, (byte) 1));
        CHECK.fails("append to -1", NoSuchElementException.class, () -> disk.append(-1, (byte) 1));
        CHECK.fails("append to MAX", NoSuchElementException.class, () -> disk.append(Integer.MAX_VALUE, (byte) 1));
        CHECK.fails("end of none", NoSuchElementException.class, () -> disk.end(4));
        CHECK.fails("end of -1", NoSuchElementException.class, () -> disk.end(-1));
        disk.file(4);
        appendMany(disk, 4, 49);
        CHECK.same("49 bytes are not written", disk.space(2), 0);
        CHECK.same("the 50th", disk.append(4, (byte) -128), 1);
        CHECK.same("are", disk.space(2), 1);
        CHECK.same("the 51st", disk.append(4, (byte) 127), 1);
        CHECK.same("end(4)", disk.end(4), 1);
        CHECK.space("the rest and the end", disk, 40, 5, 3, 2, 0, 1, 0, 1, 0, 0);
        CHECK.fails("append behind the end", NoSuchElementException.class, () -> disk.append(4, (byte) 1));
        CHECK.fails("end again", NoSuchElementException.class, () -> disk.end(4));
        CHECK.same("size", disk.size(4, 1), 51);
        CHECK.same("byte 0", disk.at(4, 1, 0), -70);
        CHECK.same("byte 48", disk.at(4, 1, 48), 48 * 3 - 70);
        CHECK.same("byte 49", disk.at(4, 1, 49), -128);
        CHECK.same("byte 50", disk.at(4, 1, 50), 127);
        CHECK.fails("byte 51", ArrayIndexOutOfBoundsException.class, () -> disk.at(4, 1, 51));
        CHECK.fails("byte -1", ArrayIndexOutOfBoundsException.class, () -> disk.at(4, 1, -1));
        CHECK.fails("byte 0 of another version", ArrayIndexOutOfBoundsException.class, () -> disk.at(4, 2, 0));
        CHECK.fails("byte 0 of another name", ArrayIndexOutOfBoundsException.class, () -> disk.at(5, 1, 0));
        CHECK.fails("byte 0 of name -1", ArrayIndexOutOfBoundsException.class, () -> disk.at(-1, -1, 0));
        disk.cut(9, 0);
        CHECK.fails("append when shut", NoSuchElementException.class, () -> disk.append(4, (byte) 1));
        CHECK.fails("end when shut", NoSuchElementException.class, () -> disk.end(4));
        CHECK.fails("at when shut", ArrayIndexOutOfBoundsException.class, () -> disk.at(4, 1, 0));
        CHECK.same("size when shut", disk.size(4, 1), -1);
        CHECK.same("latest when shut", disk.latest(4), 0);
        CHECK.same("folder when shut", disk.folder(0), -1);
        CHECK.same("start", disk.start(), 1);
        CHECK.same("byte 49 after a start", disk.at(4, 1, 49), -128);
        CHECK.same("byte 50 after a start", disk.at(4, 1, 50), 127);
    }

    private static void mixedPieces() {
        PageDisk disk = new PageDisk(40);
        disk.file(8);
        disk.file(9);
        for (int i = 0; i < 60; i++) {
            disk.append(8, (byte) i);
            disk.append(9, (byte) (100 - i));
        }
        CHECK.same("end(9)", disk.end(9), 1);
        CHECK.same("end(8)", disk.end(8), 1);
        for (int round = 0; round < 2; round++) {
            CHECK.same("8, 0", disk.at(8, 1, 0), 0);
            CHECK.same("8, 55", disk.at(8, 1, 55), 55);
            CHECK.same("9, 49", disk.at(9, 1, 49), 51);
            CHECK.same("9, 59", disk.at(9, 1, 59), 41);
            disk.cut(99, 0);
            CHECK.same("start", disk.start(), 2);
        }
    }

    private static void pokesDoNotReachWhatIsKnown() {
        PageDisk disk = new PageDisk(20);
        disk.file(1);
        disk.append(1, (byte) 5);
        disk.end(1);
        disk.sync();
        disk.poke(2, 10, 255);
        CHECK.same("a byte that was altered on the disk", disk.at(1, 1, 0), 5);
        disk.cut(0, 0);
        CHECK.same("its version is torn in a start", disk.start(), 0);
        CHECK.same("size", disk.size(1, 1), -2);
        disk.poke(2, 10, 255);
        CHECK.same("until the next start", disk.size(1, 1), -2);
        disk.cut(0, 0);
        CHECK.same("which finds it again", disk.start(), 1);
        CHECK.same("byte", disk.at(1, 1, 0), 5);
    }

    private static void folderAndLatest() {
        PageDisk disk = new PageDisk(60);
        int[] names = {500, 3, 999, 0, 42, 3, 500};
        for (int name : names) {
            disk.file(name);
            disk.end(name);
        }
        int[] due = {0, 3, 42, 500, 999};
        for (int i = 0; i < due.length; i++) {
            CHECK.same("folder " + i, disk.folder(i), due[i]);
        }
        CHECK.same("folder 5", disk.folder(5), -1);
        CHECK.same("folder -1", disk.folder(-1), -1);
        CHECK.same("folder MIN", disk.folder(Integer.MIN_VALUE), -1);
        CHECK.same("folder MAX", disk.folder(Integer.MAX_VALUE), -1);
        CHECK.same("whole versions", disk.space(5), 7);
        CHECK.same("latest(3)", disk.latest(3), 2);
        CHECK.same("latest(42)", disk.latest(42), 1);
        CHECK.same("latest(1)", disk.latest(1), 0);
        CHECK.same("latest(-1)", disk.latest(-1), 0);
        CHECK.same("latest(1000)", disk.latest(1000), 0);
        CHECK.same("size of an empty version", disk.size(3, 2), 0);
        CHECK.same("size of version 0", disk.size(3, 0), -1);
        CHECK.same("size of version 3", disk.size(3, 3), -1);
        CHECK.same("size of name -1", disk.size(-1, 1), -1);
        CHECK.fails("a byte of an empty version", ArrayIndexOutOfBoundsException.class, () -> disk.at(3, 2, 0));
    }

    private static void tornVersions() {
        PageDisk disk = new PageDisk(40);
        Craft craft = new Craft(disk);
        craft.piece(2, 1, 7, 3, 1, 2, 3);
        craft.end(3, 1, 7, 3, 2);
        craft.end(4, 1, 7, 1, 0);
        craft.piece(5, 1, 7, 5, 9);
        craft.end(6, 1, 9, 2, 1);
        disk.cut(0, 0);
        CHECK.same("start", disk.start(), 1);
        CHECK.same("an end that tells fewer", disk.size(7, 3), -2);
        CHECK.same("an end that tells more", disk.size(9, 2), -2);
        CHECK.same("an empty one is whole", disk.size(7, 1), 0);
        CHECK.same("pieces without an end are no version", disk.size(7, 5), -1);
        CHECK.same("latest may be torn", disk.latest(7), 3);
        CHECK.same("latest may be torn alone", disk.latest(9), 2);
        CHECK.fails("a byte of a torn one", ArrayIndexOutOfBoundsException.class, () -> disk.at(7, 3, 0));
        CHECK.same("the folder has whole ones", disk.folder(0), 7);
        CHECK.same("alone", disk.folder(1), -1);
        CHECK.same("a piece that was read tells the next version", disk.file(7), 6);
        CHECK.same("an end that was read tells the next version", disk.file(9), 3);
    }

    private static void lastVersion() {
        PageDisk disk = new PageDisk(40);
        Craft craft = new Craft(disk);
        craft.end(2, 1, 7, 9998, 0);
        craft.piece(3, 1, 8, 9999, 1);
        disk.cut(0, 0);
        CHECK.same("start", disk.start(), 1);
        CHECK.same("the last version", disk.file(7), 9999);
        CHECK.same("is written", disk.end(7), 9999);
        CHECK.same("latest", disk.latest(7), 9999);
        CHECK.same("none is above it", disk.file(7), 0);
        CHECK.same("none is above a piece's", disk.file(8), 0);
        CHECK.same("none is open", disk.space(6), 0);
    }

    public static void main(String[] args) {
        opening();
        sixAtMost();
        roomForFiles();
        roomForBytes();
        roomForRowsBesideBytes();
        fullFile();
        appendAndEnd();
        mixedPieces();
        pokesDoNotReachWhatIsKnown();
        folderAndLatest();
        tornVersions();
        lastVersion();
        CHECK.done();
    }
}
