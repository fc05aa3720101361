/** Disks in the states that tests begin with. */
final class Given {
    interface Crafting {
        void on(Craft craft);
    }

    private Given() {
    }

    /** A disk with crafted sectors, before a start. */
    static PageDisk shut(int sectors, Crafting crafting) {
        PageDisk disk = new PageDisk(sectors);
        crafting.on(new Craft(disk));
        disk.cut(0, 0);
        return disk;
    }

    static PageDisk started(int sectors, Crafting crafting) {
        PageDisk disk = shut(sectors, crafting);
        disk.start();
        return disk;
    }

    /** So many rows that wait. */
    static PageDisk rows(int sectors, int count) {
        PageDisk disk = new PageDisk(sectors);
        addRows(disk, count);
        return disk;
    }

    static void addRows(PageDisk disk, int count) {
        for (int i = 0; i < count; i++) {
            disk.row(1, i);
        }
    }

    static void append(PageDisk disk, int name, int count) {
        for (int i = 0; i < count; i++) {
            disk.append(name, (byte) (i * 7 + 1));
        }
    }

    /** A file of so many bytes that has ended. */
    static void version(PageDisk disk, int name, int bytes) {
        disk.file(name);
        append(disk, name, bytes);
        disk.end(name);
    }
}
