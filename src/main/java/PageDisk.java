import java.util.NoSuchElementException;

/** Kept files, queue rows and their states on a disk of sectors; shared/DOC.md tells what each call must do. */
public final class PageDisk {
    public static final int NONE = -1;

    private static final int MIN_SECTORS = 8;
    private static final int MAX_SECTORS = 160;
    private static final int SECTOR_BYTES = 64;
    private static final int FIRST_SECTOR = 2;
    private static final int SPARE_SECTORS = 3;

    private static final int LIFE_AT = 2;
    private static final int KIND_AT = 4;
    private static final int LENGTH_AT = 5;
    private static final int CONTENT_AT = 6;
    private static final int VERSION_AT = 8;
    private static final int STATE_AT = 8;
    private static final int VALUE_AT = 7;
    private static final int BYTES_AT = 10;
    private static final int COUNT_AT = 10;
    private static final int SUM_AT = 60;
    private static final int SUM_FACTOR = 0xC2B2AE3D;

    private static final int PIECE = 1;
    private static final int END = 2;
    private static final int ROW = 3;
    private static final int STATE = 4;
    private static final int HEAD = 9;
    private static final int TORN_KIND = 255;
    private static final int FILE_NUMBERS = 4;
    private static final int PIECE_BYTES = 50;
    private static final int END_LENGTH = 6;
    private static final int ROW_LENGTH = 9;
    private static final int STATE_LENGTH = 3;
    private static final int HEAD_LENGTH = 6;

    private static final int MAX_NAME = 999;
    private static final int MAX_VERSION = 9999;
    private static final int MAX_BYTES = 2000;
    private static final int MAX_STATE = 9;
    private static final int MAX_LIFE = 65535;
    private static final int MAX_GENERATION = 999999999;
    private static final int MAX_OPEN = 6;

    private final int sectors;
    private final Sectors disk;
    /** What was written or taken, sector by sector: a poke reaches the disk alone, so answers come from here. */
    private final Sectors known;
    private final OpenFile[] files;
    private final Versions versions;
    private final Rows rows;
    private final Numbers wrongs;
    /** The sectors from here up to the tail wait for a sync. */
    private int firstWaiting;
    private int tail;
    private int acknowledged;
    private int life;
    private int generation;
    private boolean shut;

    public PageDisk(int sectors) {
        this.sectors = Math.max(MIN_SECTORS, Math.min(sectors, MAX_SECTORS));
        disk = new Sectors(this.sectors);
        known = new Sectors(this.sectors);
        files = new OpenFile[MAX_OPEN];
        for (int i = 0; i < files.length; i++) {
            files[i] = new OpenFile();
        }
        versions = new Versions(this.sectors);
        rows = new Rows(this.sectors);
        wrongs = new Numbers(this.sectors);
        firstWaiting = FIRST_SECTOR;
        tail = FIRST_SECTOR;
        acknowledged = FIRST_SECTOR;
        life = 1;
        generation = 0;
        shut = false;
    }

    public int file(int name) throws IllegalArgumentException, IllegalStateException {
        if (!within(name, 0, MAX_NAME)) {
            throw new IllegalArgumentException("no such name");
        }
        if (shut || openFile(name) != null) {
            throw new IllegalStateException("open already, or the disk is shut");
        }
        OpenFile free = freeSlot();
        int version = versions.greatestMet(name) + 1;
        if (free == null || version > MAX_VERSION || !fits(1 + SPARE_SECTORS)) {
            return 0;
        }
        free.open(name, version);
        return version;
    }

    public int append(int name, byte b) throws NoSuchElementException {
        OpenFile target = openFile(name);
        if (target == null) {
            throw new NoSuchElementException("not open");
        }
        boolean room = target.unwritten() > 0 || fits(1 + SPARE_SECTORS);
        if (target.length >= MAX_BYTES || !room) {
            return 0;
        }
        target.add(b);
        if (target.unwritten() == PIECE_BYTES) {
            writePiece(target);
        }
        return 1;
    }

    public int end(int name) throws NoSuchElementException {
        OpenFile target = openFile(name);
        if (target == null) {
            throw new NoSuchElementException("not open");
        }
        if (target.unwritten() > 0) {
            writePiece(target);
        }
        writeEnd(target);
        target.close();
        return target.version;
    }

    public int row(int kind, long value) throws IllegalArgumentException, IllegalStateException {
        if (!within(kind, 0, 255)) {
            throw new IllegalArgumentException("no such kind");
        }
        if (shut) {
            throw new IllegalStateException("the disk is shut");
        }
        if (!fits(1)) {
            return NONE;
        }
        known.begin(tail, life, ROW, ROW_LENGTH);
        known.putNumber(tail, CONTENT_AT, 1, kind);
        known.putNumber(tail, VALUE_AT, 8, value);
        finishWrite();
        return rows.count - 1;
    }

    public int state(int row, int state) throws NoSuchElementException, IllegalArgumentException {
        if (!rows.has(row)) {
            throw new NoSuchElementException("no such row");
        }
        if (!within(state, 0, MAX_STATE)) {
            throw new IllegalArgumentException("no such state");
        }
        if (!fits(1)) {
            return NONE;
        }
        int before = rows.stateOf(row);
        known.begin(tail, life, STATE, STATE_LENGTH);
        known.putNumber(tail, CONTENT_AT, 2, row);
        known.putNumber(tail, STATE_AT, 1, state);
        finishWrite();
        return before;
    }

    public int sync() throws IllegalStateException {
        if (shut) {
            throw new IllegalStateException("the disk is shut");
        }
        int writes = prepareWrites();
        bringWhole(writes);
        if (writes > 0) {
            generation = nextGeneration();
            acknowledged = tail;
            firstWaiting = tail;
        }
        return writes;
    }

    public int cut(int keep, int tear) throws IllegalArgumentException, IllegalStateException {
        if (keep < 0 || !within(tear, 0, SECTOR_BYTES - 1)) {
            throw new IllegalArgumentException("no such cut");
        }
        if (shut) {
            throw new IllegalStateException("the disk is shut");
        }
        int writes = prepareWrites();
        int whole = Math.min(keep, writes);
        bringWhole(whole);
        if (whole < writes && tear > 0) {
            int torn = sectorOfWrite(whole);
            disk.copyFirst(known, torn, tear);
            disk.putNumber(torn, KIND_AT, 1, TORN_KIND);
        }
        forget();
        shut = true;
        return whole;
    }

    public int start() throws IllegalStateException {
        if (!shut) {
            throw new IllegalStateException("the disk is not shut");
        }
        shut = false;
        readHeads();
        readSectors();
        return versions.wholeCount;
    }

    public byte at(int name, int version, int i) throws ArrayIndexOutOfBoundsException {
        int size = versions.sizeOf(versions.find(name, version));
        if (!within(i, 0, size - 1)) {
            throw new ArrayIndexOutOfBoundsException("no such byte");
        }
        return (byte) fileByte(name, version, i);
    }

    public int size(int name, int version) {
        return versions.sizeOf(versions.find(name, version));
    }

    public int latest(int name) {
        return versions.greatestEnded(name);
    }

    public int folder(int i) {
        return versions.wholeNames.has(i) ? versions.wholeNames.get(i) : NONE;
    }

    public long job(int row, int what) throws IndexOutOfBoundsException {
        if (!rows.has(row) || !within(what, 0, 2)) {
            throw new IndexOutOfBoundsException("no such row, or nothing such of it");
        }
        switch (what) {
            case 0:
                return rows.kindOf(row);
            case 1:
                return rows.valueOf(row);
            default:
                return rows.stateOf(row);
        }
    }

    public int wrong(int i) throws IndexOutOfBoundsException {
        if (i == -1) {
            return wrongs.count;
        }
        if (!wrongs.has(i)) {
            throw new IndexOutOfBoundsException("no such wrong sector");
        }
        return wrongs.get(i);
    }

    public int space(int what) throws IllegalArgumentException {
        switch (what) {
            case 0:
                return sectors;
            case 1:
                return tail;
            case 2:
                return tail - firstWaiting;
            case 3:
                return acknowledged;
            case 4:
                return rows.count;
            case 5:
                return versions.wholeCount;
            case 6:
                return openCount();
            case 7:
                return life;
            case 8:
                return generation;
            case 9:
                return shut ? 1 : 0;
            default:
                throw new IllegalArgumentException("nothing such is told");
        }
    }

    public int poke(int sector, int at, int mask) throws IndexOutOfBoundsException, IllegalArgumentException {
        if (!disk.has(sector, at)) {
            throw new IndexOutOfBoundsException("no such byte");
        }
        if (!within(mask, 1, 255)) {
            throw new IllegalArgumentException("no such mask");
        }
        disk.putNumber(sector, at, 1, disk.byteAt(sector, at) ^ mask);
        return disk.byteAt(sector, at);
    }

    public int look(int sector, int at) throws IndexOutOfBoundsException {
        if (!disk.has(sector, at)) {
            throw new IndexOutOfBoundsException("no such byte");
        }
        return disk.byteAt(sector, at);
    }

    private static boolean within(long value, long least, long greatest) {
        return value >= least && value <= greatest;
    }

    private OpenFile openFile(int name) {
        for (int i = 0; i < files.length; i++) {
            if (files[i] != null && files[i].isOpen && files[i].name == name) {
                return files[i];
            }
        }
        return null;
    }

    private OpenFile freeSlot() {
        for (int i = 0; i < files.length; i++) {
            if (files[i] != null && !files[i].isOpen) {
                return files[i];
            }
        }
        return null;
    }

    private int openCount() {
        int count = 0;
        for (int i = 0; i < files.length; i++) {
            if (files[i] != null && files[i].isOpen) {
                count++;
            }
        }
        return count;
    }

    /** Whether so many sectors more fit in beside those that the open files still need. */
    private boolean fits(int more) {
        int needs = 0;
        for (int i = 0; i < files.length; i++) {
            if (files[i] != null) {
                needs += files[i].needs();
            }
        }
        return tail + needs + more <= sectors;
    }

    private void writePiece(OpenFile source) {
        int bytes = source.unwritten();
        known.begin(tail, life, PIECE, FILE_NUMBERS + bytes);
        known.putNumber(tail, CONTENT_AT, 2, source.name);
        known.putNumber(tail, VERSION_AT, 2, source.version);
        for (int i = 0; i < bytes; i++) {
            known.putNumber(tail, BYTES_AT + i, 1, source.unwrittenByte(i));
        }
        source.written = source.length;
        finishWrite();
    }

    private void writeEnd(OpenFile source) {
        known.begin(tail, life, END, END_LENGTH);
        known.putNumber(tail, CONTENT_AT, 2, source.name);
        known.putNumber(tail, VERSION_AT, 2, source.version);
        known.putNumber(tail, COUNT_AT, 2, source.length);
        finishWrite();
    }

    /** What is written counts at once, by the same rules by which a start would find it. */
    private void finishWrite() {
        known.seal(tail);
        take(tail);
        tail++;
    }

    private void take(int sector) {
        int name = (int) known.number(sector, CONTENT_AT, 2);
        int version = (int) known.number(sector, VERSION_AT, 2);
        switch (known.byteAt(sector, KIND_AT)) {
            case PIECE:
                versions.takePiece(versions.meet(name, version), known.byteAt(sector, LENGTH_AT) - FILE_NUMBERS);
                break;
            case END:
                versions.takeEnd(versions.meet(name, version), (int) known.number(sector, COUNT_AT, 2));
                break;
            case ROW:
                rows.add(known.byteAt(sector, CONTENT_AT), known.number(sector, VALUE_AT, 8));
                break;
            case STATE:
                rows.change((int) known.number(sector, CONTENT_AT, 2), known.byteAt(sector, STATE_AT));
                break;
            default:
                break;
        }
    }

    /** The pieces before a version's end have just its bytes, so later pieces of the same numbers are never reached. */
    private int fileByte(int name, int version, int i) {
        int left = i;
        for (int sector = FIRST_SECTOR; sector < tail; sector++) {
            if (known.isPieceOf(sector, name, version)) {
                int bytes = known.byteAt(sector, LENGTH_AT) - FILE_NUMBERS;
                if (left < bytes) {
                    return known.byteAt(sector, BYTES_AT + left);
                }
                left -= bytes;
            }
        }
        return 0;
    }

    private int nextGeneration() {
        return generation >= MAX_GENERATION ? 0 : generation + 1;
    }

    /** Makes the head ready; how many writes a sync would bring to the disk, the head too. */
    private int prepareWrites() {
        int waiting = tail - firstWaiting;
        if (waiting <= 0) {
            return 0;
        }
        int head = nextGeneration() & 1;
        known.begin(head, 0, HEAD, HEAD_LENGTH);
        known.putNumber(head, CONTENT_AT, 4, nextGeneration());
        known.putNumber(head, COUNT_AT, 2, tail);
        known.seal(head);
        return waiting + 1;
    }

    private int sectorOfWrite(int write) {
        int sector = firstWaiting + write;
        return sector < tail ? sector : nextGeneration() & 1;
    }

    private void bringWhole(int writes) {
        for (int write = 0; write < writes; write++) {
            disk.copyFirst(known, sectorOfWrite(write), SECTOR_BYTES);
        }
    }

    /** The wrong sectors stay: they are told while the disk is shut, too. */
    private void forget() {
        for (int i = 0; i < files.length; i++) {
            if (files[i] != null) {
                files[i].close();
            }
        }
        versions.clear();
        rows.count = 0;
        firstWaiting = FIRST_SECTOR;
        tail = FIRST_SECTOR;
        acknowledged = FIRST_SECTOR;
        life = 0;
        generation = 0;
    }

    private void readHeads() {
        long first = headGeneration(0);
        long second = headGeneration(1);
        int teller = second > first ? 1 : 0;
        if (first < 0 && second < 0) {
            acknowledged = FIRST_SECTOR;
            generation = 0;
        } else {
            acknowledged = (int) disk.number(teller, COUNT_AT, 2);
            generation = (int) Math.max(first, second);
        }
    }

    /** Below 0 when the head is not good, so that every good one is greater. */
    private long headGeneration(int sector) {
        boolean good = disk.byteAt(sector, KIND_AT) == HEAD && disk.isGood(sector);
        return good ? disk.number(sector, CONTENT_AT, 4) : -1;
    }

    private void readSectors() {
        wrongs.count = 0;
        tail = FIRST_SECTOR;
        int lastLife = 0;
        boolean more = true;
        for (int sector = FIRST_SECTOR; more && sector < sectors; sector++) {
            int itsLife = (int) disk.number(sector, LIFE_AT, 2);
            if (itsLife >= lastLife && disk.byteAt(sector, KIND_AT) <= STATE && disk.isGood(sector)) {
                lastLife = itsLife;
                known.copyFirst(disk, sector, SECTOR_BYTES);
                take(sector);
            } else if (sector < acknowledged) {
                known.clear(sector);
                wrongs.add(sector);
            } else {
                more = false;
            }
            tail = more ? sector + 1 : sector;
        }
        firstWaiting = tail;
        life = Math.min(lastLife + 1, MAX_LIFE);
    }

    /** Bytes in sectors; what lies outside of them reads as 0 and takes no write, so no index can fail. */
    private static final class Sectors {
        private final int count;
        private final byte[] bytes;

        Sectors(int count) {
            this.count = Math.max(0, Math.min(count, MAX_SECTORS));
            bytes = new byte[this.count * SECTOR_BYTES];
        }

        boolean has(int sector, int at) {
            return sector >= 0 && sector < count && at >= 0 && at < SECTOR_BYTES;
        }

        /** Looks at its index itself: through has() a start's calls would go too deep for the language's rules. */
        int byteAt(int sector, int at) {
            boolean there = sector >= 0 && sector < count && at >= 0 && at < SECTOR_BYTES;
            return there ? bytes[sector * SECTOR_BYTES + at] & 255 : 0;
        }

        long number(int sector, int at, int width) {
            long value = 0;
            for (int i = 0; i < width; i++) {
                value = value << 8 | byteAt(sector, at + i);
            }
            return value;
        }

        void putNumber(int sector, int at, int width, long value) {
            long rest = value;
            for (int i = width - 1; i >= 0; i--) {
                if (has(sector, at + i)) {
                    bytes[sector * SECTOR_BYTES + at + i] = (byte) rest;
                }
                rest = rest >> 8;
            }
        }

        void clear(int sector) {
            for (int at = 0; at < SECTOR_BYTES; at++) {
                putNumber(sector, at, 1, 0);
            }
        }

        void begin(int sector, int life, int kind, int length) {
            clear(sector);
            putNumber(sector, 0, 2, sector);
            putNumber(sector, LIFE_AT, 2, life);
            putNumber(sector, KIND_AT, 1, kind);
            putNumber(sector, LENGTH_AT, 1, length);
        }

        void seal(int sector) {
            putNumber(sector, SUM_AT, 4, sum(sector));
        }

        int sum(int sector) {
            int sum = 0;
            for (int at = 0; at < SUM_AT; at++) {
                int mixed = sum ^ byteAt(sector, at);
                sum = (mixed << 13 | mixed >>> 19) * SUM_FACTOR;
            }
            return sum;
        }

        void copyFirst(Sectors from, int sector, int howMany) {
            if (has(sector, howMany - 1) && from.has(sector, howMany - 1)) {
                int place = sector * SECTOR_BYTES;
                System.arraycopy(from.bytes, place, bytes, place, howMany);
            }
        }

        boolean isPieceOf(int sector, int name, int version) {
            return byteAt(sector, KIND_AT) == PIECE
                && number(sector, CONTENT_AT, 2) == name
                && number(sector, VERSION_AT, 2) == version;
        }

        boolean isGood(int sector) {
            return number(sector, 0, 2) == sector
                && (int) number(sector, SUM_AT, 4) == sum(sector)
                && hasGoodNumbers(sector);
        }

        private boolean hasGoodNumbers(int sector) {
            int length = byteAt(sector, LENGTH_AT);
            boolean named = number(sector, CONTENT_AT, 2) <= MAX_NAME
                && within(number(sector, VERSION_AT, 2), 1, MAX_VERSION);
            switch (byteAt(sector, KIND_AT)) {
                case PIECE:
                    return named && within(length, FILE_NUMBERS + 1, FILE_NUMBERS + PIECE_BYTES);
                case END:
                    return named && length == END_LENGTH && number(sector, COUNT_AT, 2) <= MAX_BYTES;
                case ROW:
                    return length == ROW_LENGTH;
                case STATE:
                    return length == STATE_LENGTH && byteAt(sector, STATE_AT) <= MAX_STATE;
                case HEAD:
                    return length == HEAD_LENGTH && number(sector, CONTENT_AT, 4) <= MAX_GENERATION
                        && within(number(sector, COUNT_AT, 2), FIRST_SECTOR, count);
                default:
                    return false;
            }
        }
    }

    /** A slot for an open file; files come and go in the same few slots, so that none is made anew. */
    private static final class OpenFile {
        private final byte[] rest = new byte[PIECE_BYTES];
        private boolean isOpen;
        private int name;
        private int version;
        private int length;
        private int written;

        void open(int itsName, int itsVersion) {
            isOpen = true;
            name = itsName;
            version = itsVersion;
            length = 0;
            written = 0;
        }

        void close() {
            isOpen = false;
        }

        int unwritten() {
            return length - written;
        }

        int needs() {
            if (!isOpen) {
                return 0;
            }
            return unwritten() > 0 ? 2 : 1;
        }

        void add(byte b) {
            int i = unwritten();
            if (i >= 0 && i < rest.length) {
                rest[i] = b;
                length++;
            }
        }

        byte unwrittenByte(int i) {
            return i >= 0 && i < rest.length ? rest[i] : 0;
        }
    }

    /** A row of numbers with a fixed length; what does not fit in is not added. */
    private static final class Numbers {
        private final int[] numbers;
        private int count;

        Numbers(int most) {
            numbers = new int[Math.max(0, Math.min(most, MAX_SECTORS))];
        }

        boolean has(int i) {
            return i >= 0 && i < count && i < numbers.length;
        }

        int get(int i) {
            return i >= 0 && i < count && i < numbers.length ? numbers[i] : NONE;
        }

        void set(int i, int number) {
            if (i >= 0 && i < count && i < numbers.length) {
                numbers[i] = number;
            }
        }

        void add(int number) {
            if (count >= 0 && count < numbers.length) {
                numbers[count] = number;
                count++;
            }
        }

        /** Keeps the numbers in order, each one once. */
        void addInOrder(int number) {
            int place = 0;
            while (place < count && get(place) < number) {
                place++;
            }
            if (place < count && get(place) == number) {
                return;
            }
            add(number);
            for (int i = count - 1; i > place; i--) {
                set(i, get(i - 1));
            }
            set(place, number);
        }
    }

    /** The versions that were met, in the order of their first sectors: no more of them than there are sectors. */
    private static final class Versions {
        private static final int UNENDED = 0;
        private static final int WHOLE = 1;
        private static final int TORN = 2;

        private final Numbers names;
        private final Numbers versions;
        private final Numbers sizes;
        private final Numbers fates;
        private final Numbers wholeNames;
        private int wholeCount;

        Versions(int most) {
            names = new Numbers(most);
            versions = new Numbers(most);
            sizes = new Numbers(most);
            fates = new Numbers(most);
            wholeNames = new Numbers(most);
        }

        void clear() {
            names.count = 0;
            versions.count = 0;
            sizes.count = 0;
            fates.count = 0;
            wholeNames.count = 0;
            wholeCount = 0;
        }

        int find(int name, int version) {
            for (int i = 0; i < names.count; i++) {
                if (names.get(i) == name && versions.get(i) == version) {
                    return i;
                }
            }
            return NONE;
        }

        /** Where a version stands, from now on if it was not met before. */
        int meet(int name, int version) {
            int found = find(name, version);
            if (found != NONE) {
                return found;
            }
            names.add(name);
            versions.add(version);
            sizes.add(0);
            fates.add(UNENDED);
            return names.count - 1;
        }

        void takePiece(int i, int bytes) {
            if (fates.get(i) != UNENDED) {
                return;
            }
            sizes.set(i, sizes.get(i) + bytes);
            if (sizes.get(i) > MAX_BYTES) {
                fates.set(i, TORN);
            }
        }

        void takeEnd(int i, int bytes) {
            if (fates.get(i) != UNENDED) {
                return;
            }
            if (sizes.get(i) == bytes) {
                fates.set(i, WHOLE);
                wholeNames.addInOrder(names.get(i));
                wholeCount++;
            } else {
                fates.set(i, TORN);
            }
        }

        int sizeOf(int i) {
            switch (fates.get(i)) {
                case WHOLE:
                    return sizes.get(i);
                case TORN:
                    return -2;
                default:
                    return -1;
            }
        }

        /** An opened file is found here, too, once it has ended; while it is open nobody asks for its name. */
        int greatestMet(int name) {
            return greatest(name, UNENDED);
        }

        int greatestEnded(int name) {
            return greatest(name, WHOLE);
        }

        private int greatest(int name, int leastFate) {
            int greatest = 0;
            for (int i = 0; i < names.count; i++) {
                if (names.get(i) == name && fates.get(i) >= leastFate) {
                    greatest = Math.max(greatest, versions.get(i));
                }
            }
            return greatest;
        }
    }

    /** The rows of the queue: no more of them than there are sectors. */
    private static final class Rows {
        private final int[] kinds;
        private final long[] values;
        private final int[] states;
        private int count;

        Rows(int most) {
            int length = Math.max(0, Math.min(most, MAX_SECTORS));
            kinds = new int[length];
            values = new long[length];
            states = new int[length];
        }

        boolean has(int row) {
            return row >= 0 && row < count && row < kinds.length;
        }

        void add(int kind, long value) {
            if (count >= 0 && count < kinds.length) {
                kinds[count] = kind;
                values[count] = value;
                states[count] = 0;
                count++;
            }
        }

        void change(int row, int state) {
            if (has(row)) {
                states[row] = state;
            }
        }

        int kindOf(int row) {
            return has(row) ? kinds[row] : NONE;
        }

        long valueOf(int row) {
            return has(row) ? values[row] : NONE;
        }

        int stateOf(int row) {
            return has(row) ? states[row] : NONE;
        }
    }
}
