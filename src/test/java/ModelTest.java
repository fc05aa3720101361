import java.util.Random;

/** Many runs of 512 calls, each answer compared with the model's; seeds are fixed, so every run can be had again. */
public final class ModelTest {
    private static final int RUNS = 3000;
    private static final int CALLS = 512;

    private final Random random;
    private final PageDisk disk;
    private final Model model;
    private final StringBuilder story = new StringBuilder();
    private int calls = 0;
    private boolean failed = false;

    private ModelTest(long seed) {
        random = new Random(seed);
        int[] sizes = {8, 9, 12, 16, 24, 40, 160, random.nextInt(170) - 2};
        int sectors = sizes[random.nextInt(sizes.length)];
        disk = new PageDisk(sectors);
        model = new Model(sectors);
    }

    /** The name of the exception, so that one below or above the one that is due is told. */
    private static String answer(Check.Call call) {
        try {
            return Long.toString(call.answer());
        } catch (RuntimeException e) {
            return "throws." + e.getClass().getSimpleName();
        }
    }

    private void both(String what, Check.Call ours, Check.Call due) {
        calls++;
        String got = answer(ours);
        String want = answer(due);
        story.append(what).append(" -> ").append(got).append('\n');
        if (!got.equals(want)) {
            failed = true;
            story.append("   due is ").append(want).append('\n');
        }
    }

    private int edge(int least, int greatest) {
        int[] odd = {least - 1, greatest + 1, Integer.MIN_VALUE, Integer.MAX_VALUE, least, greatest};
        return random.nextInt(12) == 0 ? odd[random.nextInt(odd.length)] : least + random.nextInt(greatest - least + 1);
    }

    private int name() {
        int[] names = {0, 1, 2, 3, 4, 500, 998, 999};
        return random.nextInt(15) == 0 ? edge(0, 999) : names[random.nextInt(names.length)];
    }

    private void file() {
        int name = name();
        both("file(" + name + ")", () -> disk.file(name), () -> model.file(name));
    }

    private void append() {
        int name = name();
        int many = random.nextInt(6) == 0 ? random.nextInt(120) : 1 + random.nextInt(3);
        for (int i = 0; i < many && calls < CALLS && !failed; i++) {
            byte b = (byte) random.nextInt(256);
            both("append(" + name + ", " + b + ")", () -> disk.append(name, b), () -> model.append(name, b));
        }
    }

    private void end() {
        int name = name();
        both("end(" + name + ")", () -> disk.end(name), () -> model.end(name));
    }

    private void row() {
        int kind = edge(0, 255);
        long value = random.nextLong();
        both("row(" + kind + ", " + value + ")", () -> disk.row(kind, value), () -> model.row(kind, value));
    }

    private void state() {
        int row = edge(0, Math.max(0, model.space(4) - 1));
        int state = edge(0, 9);
        both("state(" + row + ", " + state + ")", () -> disk.state(row, state), () -> model.state(row, state));
    }

    private void sync() {
        both("sync()", disk::sync, model::sync);
    }

    private void cut() {
        int keep = random.nextBoolean() ? edge(0, model.space(2) + 1) : random.nextInt(3);
        int tear = edge(0, 63);
        both("cut(" + keep + ", " + tear + ")", () -> disk.cut(keep, tear), () -> model.cut(keep, tear));
    }

    private void start() {
        both("start()", disk::start, model::start);
    }

    private void ask() {
        int name = name();
        int version = random.nextInt(8) == 0 ? edge(1, 9999) : random.nextInt(4) + Math.max(0, model.latest(name) - 2);
        int i = edge(0, Math.max(0, model.size(name, version) - 1));
        both("size(" + name + ", " + version + ")", () -> disk.size(name, version), () -> model.size(name, version));
        both("at(" + name + ", " + version + ", " + i + ")", () -> disk.at(name, version, i),
            () -> model.at(name, version, i));
        both("latest(" + name + ")", () -> disk.latest(name), () -> model.latest(name));
        int j = edge(0, 8);
        both("folder(" + j + ")", () -> disk.folder(j), () -> model.folder(j));
        int row = edge(0, Math.max(0, model.space(4) - 1));
        int what = edge(0, 2);
        both("job(" + row + ", " + what + ")", () -> disk.job(row, what), () -> model.job(row, what));
        int w = edge(-1, Math.max(0, model.wrong(-1) - 1));
        both("wrong(" + w + ")", () -> disk.wrong(w), () -> model.wrong(w));
        int s = edge(0, 9);
        both("space(" + s + ")", () -> disk.space(s), () -> model.space(s));
    }

    private void poke(int sector, int at, int mask) {
        both("poke(" + sector + ", " + at + ", " + mask + ")", () -> disk.poke(sector, at, mask),
            () -> model.poke(sector, at, mask));
    }

    private void damage() {
        int sector = random.nextInt(3) == 0 ? random.nextInt(2) : edge(0, Math.max(2, model.space(1)));
        poke(sector, edge(0, 63), edge(1, 255));
    }

    /** A sector that is good, or nearly so, with numbers of its own. */
    private int[] forged(int sector) {
        int life = random.nextInt(8) == 0 ? 65533 + random.nextInt(3) : random.nextInt(6);
        int version = random.nextInt(6) == 0 ? 9997 + random.nextInt(4) : random.nextInt(4);
        int name = random.nextInt(20) == 0 ? 1000 : random.nextInt(5);
        switch (sector < 2 ? 4 : random.nextInt(4)) {
            case 0:
                return Craft.pieceBytes(sector, life, name, version, new int[random.nextInt(52)]);
            case 1:
                return Craft.endBytes(sector, life, name, version, random.nextInt(10) == 0 ? 2000 + random.nextInt(2)
                    : random.nextInt(52) * random.nextInt(3));
            case 2:
                return Craft.rowBytes(sector, life, random.nextInt(256), random.nextInt(100));
            case 3:
                return Craft.stateBytes(sector, life, random.nextInt(4), random.nextInt(12));
            default:
                long generation = random.nextInt(4) == 0 ? 999999997 + random.nextInt(5) : random.nextInt(9);
                return Craft.headBytes(sector, generation, random.nextInt(model.space(0) + 3));
        }
    }

    private void forge() {
        int sector = random.nextInt(3) == 0 ? random.nextInt(2)
            : Math.min(model.space(0) - 1, 2 + random.nextInt(random.nextBoolean() ? 6 : model.space(0)));
        int[] bytes = forged(sector);
        for (int at = 0; at < 64 && calls < CALLS; at++) {
            int mask = model.look(sector, at) ^ bytes[at];
            if (mask != 0) {
                poke(sector, at, mask);
            }
        }
    }

    private void look() {
        int sector = edge(0, model.space(0) - 1);
        int at = edge(0, 63);
        both("look(" + sector + ", " + at + ")", () -> disk.look(sector, at), () -> model.look(sector, at));
    }

    private void step() {
        int chance = random.nextInt(100);
        if (model.space(9) == 1 && chance < 30) {
            start();
        } else if (chance < 14) {
            file();
        } else if (chance < 32) {
            append();
        } else if (chance < 42) {
            end();
        } else if (chance < 50) {
            row();
        } else if (chance < 58) {
            state();
        } else if (chance < 65) {
            sync();
        } else if (chance < 68) {
            cut();
        } else if (chance < 70) {
            start();
        } else if (chance < 73) {
            damage();
        } else if (chance < 76) {
            forge();
        } else if (chance < 82) {
            look();
        } else {
            ask();
        }
    }

    /** Behind the calls: the whole disk, and whatever else can be asked. */
    private void lookAtAll() {
        for (int what = 0; what < 10; what++) {
            int s = what;
            both("space(" + s + ")", () -> disk.space(s), () -> model.space(s));
        }
        for (int place = 0; place < model.space(0) * 64; place++) {
            int p = place;
            both("look(" + p / 64 + ", " + p % 64 + ")", () -> disk.look(p / 64, p % 64), () -> model.look(p / 64, p % 64));
        }
    }

    private boolean agrees() {
        while (calls < CALLS - 8 && !failed) {
            step();
        }
        if (!failed) {
            lookAtAll();
        }
        return !failed;
    }

    public static void main(String[] args) {
        for (int seed = 0; seed < RUNS; seed++) {
            ModelTest run = new ModelTest(seed);
            if (!run.agrees()) {
                System.out.println("seed " + seed + ", sectors " + run.disk.space(0) + ":\n" + run.story);
                System.exit(1);
            }
        }
        System.out.println(RUNS + " runs agree with the model");
    }
}
