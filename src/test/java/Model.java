import java.util.ArrayList;
import java.util.HashMap;
import java.util.List;
import java.util.Map;
import java.util.NoSuchElementException;
import java.util.TreeMap;
import java.util.TreeSet;

/** The document once more, in lists and maps and without a thought for room: what PageDisk is compared with. */
final class Model {
    private static final class Version {
        final List<Byte> bytes = new ArrayList<>();
        boolean whole;
        boolean torn;
    }

    private static final class Opened {
        final List<Byte> all = new ArrayList<>();
        List<Byte> rest = new ArrayList<>();
        int version;
    }

    private static final class Job {
        int kind;
        long value;
        int state;
    }

    private final int[][] disk;
    private final List<int[]> waiting = new ArrayList<>();
    private final TreeMap<Integer, Opened> open = new TreeMap<>();
    private final Map<Integer, TreeMap<Integer, Version>> versions = new HashMap<>();
    private final Map<Integer, Integer> met = new HashMap<>();
    private final List<Job> jobs = new ArrayList<>();
    private final List<Integer> wrongOnes = new ArrayList<>();
    private int used = 2;
    private int acknowledged = 2;
    private int life = 1;
    private int generation = 0;
    private boolean shut = false;

    Model(int sectors) {
        disk = new int[sectors < 8 ? 8 : sectors > 160 ? 160 : sectors][64];
    }

    int file(int name) {
        if (name < 0 || name > 999) {
            throw new IllegalArgumentException();
        }
        if (open.containsKey(name) || shut) {
            throw new IllegalStateException();
        }
        int version = met.getOrDefault(name, 0) + 1;
        if (open.size() == 6 || used + needs() + 1 + 3 > disk.length || version > 9999) {
            return 0;
        }
        Opened opened = new Opened();
        opened.version = version;
        open.put(name, opened);
        met.put(name, version);
        return version;
    }

    int append(int name, byte b) {
        Opened opened = opened(name);
        if (opened.all.size() == 2000) {
            return 0;
        }
        if (opened.rest.isEmpty() && used + needs() + 1 + 3 > disk.length) {
            return 0;
        }
        opened.all.add(b);
        opened.rest.add(b);
        if (opened.rest.size() == 50) {
            writeRest(name, opened);
        }
        return 1;
    }

    int end(int name) {
        Opened opened = opened(name);
        if (!opened.rest.isEmpty()) {
            writeRest(name, opened);
        }
        write(Craft.endBytes(used, life, name, opened.version, opened.all.size()));
        Version version = new Version();
        version.bytes.addAll(opened.all);
        version.whole = true;
        versions.computeIfAbsent(name, k -> new TreeMap<>()).put(opened.version, version);
        open.remove(name);
        return opened.version;
    }

    int row(int kind, long value) {
        if (kind < 0 || kind > 255) {
            throw new IllegalArgumentException();
        }
        if (shut) {
            throw new IllegalStateException();
        }
        if (used + 1 + needs() > disk.length) {
            return -1;
        }
        write(Craft.rowBytes(used, life, kind, value));
        addJob(kind, value);
        return jobs.size() - 1;
    }

    int state(int row, int state) {
        if (row < 0 || row >= jobs.size()) {
            throw new NoSuchElementException();
        }
        if (state < 0 || state > 9) {
            throw new IllegalArgumentException();
        }
        if (used + 1 + needs() > disk.length) {
            return -1;
        }
        write(Craft.stateBytes(used, life, row, state));
        int before = jobs.get(row).state;
        jobs.get(row).state = state;
        return before;
    }

    int sync() {
        if (shut) {
            throw new IllegalStateException();
        }
        if (waiting.isEmpty()) {
            return 0;
        }
        List<int[]> writes = writesOfASync();
        for (int[] write : writes) {
            bring(write, 64);
        }
        generation = (generation + 1) % 1000000000;
        acknowledged = used;
        waiting.clear();
        return writes.size();
    }

    int cut(int keep, int tear) {
        if (keep < 0 || tear < 0 || tear > 63) {
            throw new IllegalArgumentException();
        }
        if (shut) {
            throw new IllegalStateException();
        }
        List<int[]> writes = writesOfASync();
        int whole = 0;
        for (int[] write : writes) {
            if (whole == keep) {
                bring(write, tear);
                if (tear > 0) {
                    disk[write[0] * 256 + write[1]][4] = 255;
                }
                break;
            }
            bring(write, 64);
            whole++;
        }
        waiting.clear();
        open.clear();
        versions.clear();
        met.clear();
        jobs.clear();
        shut = true;
        return whole;
    }

    int start() {
        if (!shut) {
            throw new IllegalStateException();
        }
        shut = false;
        wrongOnes.clear();
        acknowledged = 2;
        generation = 0;
        boolean told = false;
        for (int sector = 0; sector < 2; sector++) {
            int itsGeneration = number(sector, 6, 4) > 999999999 ? -1 : (int) number(sector, 6, 4);
            if (disk[sector][4] == 9 && good(sector) && (!told || itsGeneration > generation)) {
                told = true;
                generation = itsGeneration;
                acknowledged = (int) number(sector, 10, 2);
            }
        }
        TreeSet<Integer> lives = new TreeSet<>();
        lives.add(0);
        used = disk.length;
        for (int sector = 2; sector < disk.length; sector++) {
            boolean taken = disk[sector][4] >= 1 && disk[sector][4] <= 4 && good(sector)
                && number(sector, 2, 2) >= lives.last();
            if (taken) {
                lives.add((int) number(sector, 2, 2));
                take(sector);
            } else if (sector < acknowledged) {
                wrongOnes.add(sector);
            } else {
                used = sector;
                break;
            }
        }
        life = Math.min(65535, lives.last() + 1);
        return wholeVersions();
    }

    byte at(int name, int version, int i) {
        Version found = version(name, version);
        if (found == null || !found.whole || i < 0 || i >= found.bytes.size()) {
            throw new ArrayIndexOutOfBoundsException();
        }
        return found.bytes.get(i);
    }

    int size(int name, int version) {
        Version found = version(name, version);
        if (found == null || !found.whole && !found.torn) {
            return -1;
        }
        return found.torn ? -2 : found.bytes.size();
    }

    int latest(int name) {
        int latest = 0;
        if (versions.containsKey(name)) {
            for (Map.Entry<Integer, Version> entry : versions.get(name).entrySet()) {
                latest = entry.getValue().whole || entry.getValue().torn ? entry.getKey() : latest;
            }
        }
        return latest;
    }

    int folder(int i) {
        TreeSet<Integer> names = new TreeSet<>();
        for (Map.Entry<Integer, TreeMap<Integer, Version>> entry : versions.entrySet()) {
            for (Version version : entry.getValue().values()) {
                if (version.whole) {
                    names.add(entry.getKey());
                }
            }
        }
        List<Integer> sorted = new ArrayList<>(names);
        return i < 0 || i >= sorted.size() ? -1 : sorted.get(i);
    }

    long job(int row, int what) {
        if (row < 0 || row >= jobs.size() || what < 0 || what > 2) {
            throw new IndexOutOfBoundsException();
        }
        Job job = jobs.get(row);
        return what == 0 ? job.kind : what == 1 ? job.value : job.state;
    }

    int wrong(int i) {
        if (i == -1) {
            return wrongOnes.size();
        }
        if (i < 0 || i >= wrongOnes.size()) {
            throw new IndexOutOfBoundsException();
        }
        return wrongOnes.get(i);
    }

    int space(int what) {
        if (what < 0 || what > 9) {
            throw new IllegalArgumentException();
        }
        int[] all = {disk.length, used, waiting.size(), acknowledged, jobs.size(), wholeVersions(), open.size(), life,
            generation, 0};
        int[] whenShut = {disk.length, 2, 0, 2, 0, 0, 0, 0, 0, 1};
        return shut ? whenShut[what] : all[what];
    }

    int poke(int sector, int at, int mask) {
        look(sector, at);
        if (mask < 1 || mask > 255) {
            throw new IllegalArgumentException();
        }
        disk[sector][at] ^= mask;
        return disk[sector][at];
    }

    int look(int sector, int at) {
        if (sector < 0 || sector >= disk.length || at < 0 || at > 63) {
            throw new IndexOutOfBoundsException();
        }
        return disk[sector][at];
    }

    private Opened opened(int name) {
        if (!open.containsKey(name)) {
            throw new NoSuchElementException();
        }
        return open.get(name);
    }

    private int needs() {
        int needs = open.size();
        for (Opened opened : open.values()) {
            needs += opened.rest.isEmpty() ? 0 : 1;
        }
        return needs;
    }

    private void writeRest(int name, Opened opened) {
        int[] bytes = new int[opened.rest.size()];
        for (int i = 0; i < bytes.length; i++) {
            bytes[i] = opened.rest.get(i) & 255;
        }
        write(Craft.pieceBytes(used, life, name, opened.version, bytes));
        opened.rest = new ArrayList<>();
    }

    private void write(int[] sector) {
        waiting.add(sector);
        used++;
        if (used > disk.length) {
            throw new AssertionError("the model has no room for what it promised");
        }
    }

    private List<int[]> writesOfASync() {
        List<int[]> writes = new ArrayList<>(waiting);
        int next = (generation + 1) % 1000000000;
        if (!writes.isEmpty()) {
            writes.add(Craft.headBytes(next % 2, next, used));
        }
        return writes;
    }

    private void bring(int[] write, int bytes) {
        System.arraycopy(write, 0, disk[write[0] * 256 + write[1]], 0, bytes);
    }

    private long number(int sector, int at, int width) {
        long number = 0;
        for (int i = at; i < at + width; i++) {
            number = number * 256 + disk[sector][i];
        }
        return number;
    }

    private boolean good(int sector) {
        if (number(sector, 0, 2) != sector || number(sector, 60, 4) != Craft.sum(disk[sector])) {
            return false;
        }
        int kind = disk[sector][4];
        int length = disk[sector][5];
        long third = number(sector, 10, 2);
        boolean numbered = number(sector, 6, 2) < 1000 && number(sector, 8, 2) > 0 && number(sector, 8, 2) < 10000;
        return kind == 1 && length > 4 && length < 55 && numbered
            || kind == 2 && length == 6 && numbered && third <= 2000
            || kind == 3 && length == 9
            || kind == 4 && length == 3 && disk[sector][8] < 10
            || kind == 9 && length == 6 && number(sector, 6, 4) < 1000000000 && third >= 2 && third <= disk.length;
    }

    private void take(int sector) {
        int kind = disk[sector][4];
        int name = (int) number(sector, 6, 2);
        int number = (int) number(sector, 8, 2);
        if (kind == 3) {
            addJob(disk[sector][6], number(sector, 7, 8));
        } else if (kind == 4) {
            if (name < jobs.size()) {
                jobs.get(name).state = disk[sector][8];
            }
        } else {
            met.merge(name, number, Math::max);
            Version version = versions.computeIfAbsent(name, k -> new TreeMap<>())
                .computeIfAbsent(number, k -> new Version());
            if (!version.whole && !version.torn) {
                takeInto(version, sector, kind);
            }
        }
    }

    private void takeInto(Version version, int sector, int kind) {
        if (kind == 2) {
            version.whole = version.bytes.size() == number(sector, 10, 2);
            version.torn = !version.whole;
            return;
        }
        for (int i = 0; i < disk[sector][5] - 4; i++) {
            version.bytes.add((byte) disk[sector][10 + i]);
        }
        version.torn = version.bytes.size() > 2000;
    }

    private void addJob(int kind, long value) {
        Job job = new Job();
        job.kind = kind;
        job.value = value;
        jobs.add(job);
    }

    private Version version(int name, int number) {
        return versions.containsKey(name) ? versions.get(name).get(number) : null;
    }

    private int wholeVersions() {
        int count = 0;
        for (TreeMap<Integer, Version> ofAName : versions.values()) {
            for (Version version : ofAName.values()) {
                count += version.whole ? 1 : 0;
            }
        }
        return count;
    }
}
