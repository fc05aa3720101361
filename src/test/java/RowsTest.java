import java.util.NoSuchElementException;

/** Promises 5, 6 and 14: rows, their states and what is told of them. */
public final class RowsTest {
    private static final Check CHECK = new Check();

    private static void rows() {
        PageDisk disk = new PageDisk(20);
        CHECK.fails("row(-1, 0)", IllegalArgumentException.class, () -> disk.row(-1, 0));
        CHECK.fails("row(256, 0)", IllegalArgumentException.class, () -> disk.row(256, 0));
        CHECK.same("row(0, MIN)", disk.row(0, Long.MIN_VALUE), 0);
        CHECK.same("row(255, MAX)", disk.row(255, Long.MAX_VALUE), 1);
        CHECK.same("row(7, -2)", disk.row(7, -2), 2);
        for (int round = 0; round < 2; round++) {
            CHECK.same("kind 0", disk.job(0, 0), 0);
            CHECK.same("value 0", disk.job(0, 1), Long.MIN_VALUE);
            CHECK.same("kind 1", disk.job(1, 0), 255);
            CHECK.same("value 1", disk.job(1, 1), Long.MAX_VALUE);
            CHECK.same("value 2", disk.job(2, 1), -2);
            CHECK.same("state 2", disk.job(2, 2), 0);
            CHECK.fails("job(3, 0)", IndexOutOfBoundsException.class, () -> disk.job(3, 0));
            CHECK.fails("job(-1, 0)", IndexOutOfBoundsException.class, () -> disk.job(-1, 0));
            CHECK.fails("job(0, 3)", IndexOutOfBoundsException.class, () -> disk.job(0, 3));
            CHECK.fails("job(0, -1)", IndexOutOfBoundsException.class, () -> disk.job(0, -1));
            CHECK.same("rows", disk.space(4), 3);
            disk.cut(99, 0);
            CHECK.fails("job when shut", IndexOutOfBoundsException.class, () -> disk.job(0, 0));
            CHECK.fails("row when shut", IllegalStateException.class, () -> disk.row(0, 0));
            CHECK.fails("row(256, 0) when shut", IllegalArgumentException.class, () -> disk.row(256, 0));
            CHECK.fails("state when shut", NoSuchElementException.class, () -> disk.state(0, 0));
            CHECK.same("start", disk.start(), 0);
        }
        CHECK.same("the next row", disk.row(1, 1), 3);
    }

    private static void states() {
        PageDisk disk = new PageDisk(20);
        CHECK.fails("state without a row", NoSuchElementException.class, () -> disk.state(0, 0));
        disk.row(1, 1);
        disk.row(2, 2);
        CHECK.same("state(0, 9)", disk.state(0, 9), 0);
        CHECK.same("state(0, 9) again is written again", disk.state(0, 9), 9);
        CHECK.same("four wait", disk.space(2), 4);
        CHECK.same("state(1, 4)", disk.state(1, 4), 0);
        CHECK.same("state(0, 0)", disk.state(0, 0), 9);
        CHECK.fails("state(0, 10)", IllegalArgumentException.class, () -> disk.state(0, 10));
        CHECK.fails("state(0, -1)", IllegalArgumentException.class, () -> disk.state(0, -1));
        CHECK.fails("state(2, 0)", NoSuchElementException.class, () -> disk.state(2, 0));
        CHECK.fails("state(-1, 0)", NoSuchElementException.class, () -> disk.state(-1, 0));
        CHECK.fails("state(2, 10): the row first", NoSuchElementException.class, () -> disk.state(2, 10));
        CHECK.same("state of 0", disk.job(0, 2), 0);
        CHECK.same("state of 1", disk.job(1, 2), 4);
        CHECK.same("six wait", disk.space(2), 6);
        disk.sync();
        CHECK.same("the state's kind", disk.look(4, 4), 4);
        CHECK.same("its length", disk.look(4, 5), 3);
        CHECK.same("its row", disk.look(6, 7), 1);
        CHECK.same("its number", disk.look(6, 8), 4);
        disk.cut(0, 0);
        disk.start();
        CHECK.same("state of 0 after a start", disk.job(0, 2), 0);
        CHECK.same("state of 1 after a start", disk.job(1, 2), 4);
    }

    private static void fullOfRows() {
        PageDisk disk = new PageDisk(160);
        for (int i = 0; i < 158; i++) {
            CHECK.same("row " + i, disk.row(i & 255, i * 1000000007L), i);
        }
        CHECK.same("one more", disk.row(1, 1), -1);
        CHECK.same("a state", disk.state(157, 1), -1);
        CHECK.same("sync", disk.sync(), 159);
        disk.cut(0, 0);
        disk.start();
        CHECK.same("the last one", disk.job(157, 1), 157 * 1000000007L);
        CHECK.space("full", disk, 160, 160, 0, 160, 158, 0, 0, 2, 1, 0);
    }

    private static void takenStates() {
        PageDisk disk = new PageDisk(20);
        Craft craft = new Craft(disk);
        craft.state(2, 1, 0, 5);
        craft.row(3, 1, 200, -3);
        craft.state(4, 1, 0, 9);
        craft.state(5, 1, 1, 7);
        craft.state(6, 1, 65535, 7);
        craft.row(7, 1, 1, 1L << 40);
        disk.cut(0, 0);
        CHECK.same("start", disk.start(), 0);
        CHECK.same("rows", disk.space(4), 2);
        CHECK.same("all were taken", disk.space(1), 8);
        CHECK.same("a state behind its row", disk.job(0, 2), 9);
        CHECK.same("a state before its row is nothing", disk.job(1, 2), 0);
        CHECK.same("kind", disk.job(0, 0), 200);
        CHECK.same("value", disk.job(0, 1), -3);
        CHECK.same("value of the second", disk.job(1, 1), 1L << 40);
    }

    public static void main(String[] args) {
        rows();
        states();
        fullOfRows();
        takenStates();
        CHECK.done();
    }
}
