import java.io.IOException;
import java.lang.reflect.Method;
import java.nio.file.Files;
import java.nio.file.Path;
import java.util.ArrayList;
import java.util.HashMap;
import java.util.HashSet;
import java.util.LinkedHashMap;
import java.util.List;
import java.util.Map;
import java.util.NoSuchElementException;
import java.util.Set;
import java.util.function.Supplier;
import java.util.regex.Matcher;
import java.util.regex.Pattern;

/**
 * The last sentence of "Terms", on calls that throw, in every state that a disk can be in; run from the project's
 * folder, as .ci/run does.
 */
public final class ThrowsTest {
    private static final Check CHECK = new Check();
    private static final int[] ODD = {Integer.MIN_VALUE, -65536, -257, -64, -2, -1, 0, 1, 2, 3, 6, 7, 8, 9, 10, 63, 64, 255,
        256, 999, 1000, 9999, 10000, 65535, 65536, 1 << 26, Integer.MAX_VALUE};

    private interface OnDisk {
        long call(PageDisk disk);
    }

    private static final Map<String, List<OnDisk>> CALLS = new LinkedHashMap<>();
    private static final Map<String, Supplier<PageDisk>> STATES = new LinkedHashMap<>();
    private static final Map<String, List<Class<?>>> DECLARED = new HashMap<>();
    private static final Set<String> WRITTEN = new HashSet<>();

    private static void add(String name, OnDisk call) {
        CALLS.computeIfAbsent(name, k -> new ArrayList<>()).add(call);
    }

    private static void calls() {
        for (int a : ODD) {
            add("file", disk -> disk.file(a));
            add("append", disk -> disk.append(a, (byte) 1));
            add("end", disk -> disk.end(a));
            add("wrong", disk -> disk.wrong(a));
            add("space", disk -> disk.space(a));
            for (int b : ODD) {
                add("row", disk -> disk.row(a, b));
                add("state", disk -> disk.state(a, b));
                add("cut", disk -> disk.cut(a, b));
                add("job", disk -> disk.job(a, b));
                add("look", disk -> disk.look(a, b));
                add("at", disk -> disk.at(7, a, b));
                add("at", disk -> disk.at(a, 1, b));
                add("poke", disk -> disk.poke(a, b, 1));
                add("poke", disk -> disk.poke(a, 3, b));
                add("poke", disk -> disk.poke(3, a, b));
            }
        }
        add("sync", PageDisk::sync);
        add("start", PageDisk::start);
    }

    private static void exceptions() throws IOException {
        for (Method method : PageDisk.class.getMethods()) {
            DECLARED.put(method.getName(), List.of(method.getExceptionTypes()));
        }
        String text = Files.readString(Path.of("src/main/java/PageDisk.java"));
        Matcher written = Pattern.compile("throw new \\w+\\(\"([^\"]+)\"\\)").matcher(text);
        while (written.find()) {
            WRITTEN.add(written.group(1));
        }
    }

    private static PageDisk busy() {
        PageDisk disk = Given.rows(20, 2);
        disk.sync();
        disk.state(0, 4);
        Given.version(disk, 7, 3);
        disk.file(1);
        Given.append(disk, 1, 60);
        disk.file(999);
        return disk;
    }

    private static PageDisk damaged() {
        PageDisk disk = busy();
        disk.sync();
        disk.poke(3, 20, 1);
        disk.poke(5, 20, 1);
        disk.cut(0, 0);
        return disk;
    }

    private static PageDisk found() {
        PageDisk disk = damaged();
        disk.start();
        return disk;
    }

    private static void states() {
        STATES.put("new", () -> new PageDisk(8));
        STATES.put("busy", ThrowsTest::busy);
        STATES.put("full", () -> Given.rows(8, 6));
        STATES.put("shut", ThrowsTest::damaged);
        STATES.put("started", ThrowsTest::found);
        STATES.put("shut again", () -> {
            PageDisk disk = found();
            disk.row(1, 1);
            disk.cut(0, 30);
            return disk;
        });
    }

    /** By its class alone an exception of the machine could pass for one of the document's. */
    private static void isTheDocuments(String name, RuntimeException e) {
        CHECK.holds(name + " names " + e, DECLARED.get(name).contains(e.getClass()));
        CHECK.holds(name + " throws with a written text, not " + e, WRITTEN.contains(e.getMessage()));
    }

    private static boolean isThrown(String name, PageDisk disk, OnDisk call) {
        try {
            call.call(disk);
            return false;
        } catch (RuntimeException e) {
            isTheDocuments(name, e);
            return true;
        }
    }

    /** How many of the calls throw on disks in this state. */
    private static int thrown(String name, Supplier<PageDisk> state, List<OnDisk> calls) {
        int thrown = 0;
        PageDisk disk = state.get();
        String before = State.of(disk);
        for (OnDisk call : calls) {
            if (isThrown(name, disk, call)) {
                thrown++;
                CHECK.holds(name + " changes nothing", State.of(disk).equals(before));
            } else {
                disk = state.get();
            }
        }
        return thrown;
    }

    private static void changesNothing() {
        for (Map.Entry<String, List<OnDisk>> calls : CALLS.entrySet()) {
            int thrown = 0;
            for (Supplier<PageDisk> state : STATES.values()) {
                thrown += thrown(calls.getKey(), state, calls.getValue());
            }
            CHECK.holds(calls.getKey() + " throws at all", thrown > 0);
        }
    }

    private static void theFirstNamed() {
        String[] shut = {"shut", "shut again"};
        for (String state : shut) {
            PageDisk disk = STATES.get(state).get();
            CHECK.refuses("file: the name, shut", disk, IllegalArgumentException.class, () -> disk.file(1000));
            CHECK.refuses("file: the least name, shut", disk, IllegalArgumentException.class, () -> disk.file(-1));
            CHECK.refuses("row: the kind, shut", disk, IllegalArgumentException.class, () -> disk.row(256, 0));
            CHECK.refuses("row: the least kind, shut", disk, IllegalArgumentException.class, () -> disk.row(-1, 0));
            CHECK.refuses("cut: keep, shut", disk, IllegalArgumentException.class, () -> disk.cut(-1, 0));
            CHECK.refuses("cut: tear, shut", disk, IllegalArgumentException.class, () -> disk.cut(0, 64));
            CHECK.refuses("cut: both, shut", disk, IllegalArgumentException.class, () -> disk.cut(-1, -1));
            CHECK.refuses("state: the row, shut", disk, NoSuchElementException.class, () -> disk.state(0, 10));
        }
        for (Map.Entry<String, Supplier<PageDisk>> state : STATES.entrySet()) {
            PageDisk disk = state.getValue().get();
            int rows = disk.space(4);
            int sectors = disk.space(0);
            String when = ", " + state.getKey();
            CHECK.refuses("state: both" + when, disk, NoSuchElementException.class, () -> disk.state(rows, 10));
            CHECK.refuses("state: both" + when, disk, NoSuchElementException.class, () -> disk.state(-1, -1));
            CHECK.refuses("poke: both" + when, disk, IndexOutOfBoundsException.class, () -> disk.poke(sectors, 0, 0));
            CHECK.refuses("poke: both" + when, disk, IndexOutOfBoundsException.class, () -> disk.poke(0, 64, 256));
        }
    }

    public static void main(String[] args) throws IOException {
        exceptions();
        calls();
        states();
        CHECK.sentence("Terms", "A call that throws changes nothing", ThrowsTest::changesNothing);
        CHECK.sentence("Terms", "where several exceptions that a call names fit, it is the one that it names first",
            ThrowsTest::theFirstNamed);
        CHECK.done();
    }
}
