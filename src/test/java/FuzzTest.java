import java.util.Random;

/** Long runs with cuts and pokes: only promised exceptions, and a repair leaves nothing wrong. */
public final class FuzzTest {
    private static final String[] NAMES = {"A", "B", "README", "a", "notes.txt", "fourteen_chars", "long~2",
        "longname", "a_rather_long_directory", "D", "E", "x!", ".p", ""};

    public static void main(String[] args) {
        for (int seed = 0; seed < 600; seed++) {
            run(seed);
        }
        Rig.end();
    }

    private static void run(int seed) {
        Random random = new Random(seed);
        Rig rig = new Rig();
        for (int step = 0; step < 60; step++) {
            dueAllowed(seed, step(rig, random));
            if (random.nextInt(6) == 0) {
                disturb(rig, random);
            }
            if (random.nextInt(8) == 0) {
                dueRepaired(seed, rig);
            }
        }
    }

    private static String step(Rig rig, Random random) {
        String name = NAMES[random.nextInt(NAMES.length)];
        int handle = random.nextInt(5) - 1;
        switch (random.nextInt(9)) {
            case 0:
            case 1:
                return rig.create(name, 1 + random.nextInt(3));
            case 2:
                return rig.delete(name);
            case 3:
                return rig.enter(name);
            case 4:
                return rig.open(name);
            case 5:
                return rig.read(handle, random.nextInt(9));
            case 6:
                return rig.list(random.nextInt(6) - 1, random.nextInt(48) - 1);
            default:
                for (int i = 0; i < 9; i++) {
                    rig.write(handle, random.nextLong(), 8);
                }
                return rig.write(handle, random.nextLong(), random.nextInt(10));
        }
    }

    private static void disturb(Rig rig, Random random) {
        if (random.nextInt(3) > 0) {
            rig.volume.cut(random.nextInt(12));
            return;
        }
        for (int i = random.nextInt(9); i >= 0; i--) {
            int sector = random.nextBoolean() ? random.nextInt(8) : 8 + random.nextInt(9);
            int value = random.nextBoolean() ? random.nextInt(70) : random.nextInt(256);
            rig.volume.poke(sector, random.nextInt(32), value);
        }
    }

    private static void dueAllowed(int seed, String answer) {
        boolean allowed = !answer.contains("Exception") || answer.equals(Rig.ARGUMENT) || answer.equals(Rig.STATE)
                || answer.equals(Rig.UNSUPPORTED) || answer.equals(Rig.NO_SUCH) || answer.equals(Rig.BOUNDS);
        Rig.due("seed " + seed + " " + answer, allowed, true);
    }

    private static void dueRepaired(int seed, Rig rig) {
        rig.volume.power();
        rig.volume.cut(Integer.MAX_VALUE);
        int fixes = Integer.parseInt(rig.repair());
        String image = rig.image();
        Rig.due("seed " + seed + " again", rig.repair(), 0);
        Rig.due("seed " + seed + " image", rig.image().equals(image), true);
        Rig.due("seed " + seed + " fixes", fixes >= 0, true);
        boolean[] used = new boolean[64];
        use(seed, rig, 2, used);
        useEntries(seed, rig, 2, used, 1);
        for (int cell = 0; cell < 64; cell++) {
            Rig.due("seed " + seed + " tables", rig.secondCell(cell), rig.cell(cell));
            if (cell > 1) {
                Rig.due("seed " + seed + " lost " + cell, rig.cell(cell) != 0, used[cell]);
            }
        }
    }

    private static int use(int seed, Rig rig, int first, boolean[] used) {
        int length = 0;
        for (int cluster = first; cluster != 65535; cluster = rig.cell(cluster)) {
            boolean good = cluster > 1 && cluster < 64 && !used[cluster] && rig.cell(cluster) != 0;
            Rig.due("seed " + seed + " chain at " + cluster, good, true);
            if (!good) {
                return length;
            }
            used[cluster] = true;
            length++;
        }
        return length;
    }

    private static void useEntries(int seed, Rig rig, int directory, boolean[] used, int depth) {
        for (int cluster = directory; cluster != 65535; cluster = rig.cell(cluster)) {
            for (int at = 0; at < 32; at += 16) {
                int mark = rig.octet(cluster + 6, at);
                int kind = rig.octet(cluster + 6, at + 6);
                if (mark == 0 || mark == 229 || kind == 15) {
                    continue;
                }
                int first = rig.octet(cluster + 6, at + 8) + 256 * rig.octet(cluster + 6, at + 9);
                int size = rig.octet(cluster + 6, at + 10) + 256 * rig.octet(cluster + 6, at + 11);
                int length = first == 0 ? 0 : use(seed, rig, first, used);
                Rig.due("seed " + seed + " kind", kind == 1 || kind == 2 && depth < 5 && first != 0, true);
                if (kind == 1) {
                    Rig.due("seed " + seed + " size", (size + 31) / 32, length);
                } else if (depth < 5) {
                    useEntries(seed, rig, first, used, depth + 1);
                }
            }
        }
    }
}
