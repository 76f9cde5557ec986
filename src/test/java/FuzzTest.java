import java.util.Random;

/** Runs with cuts and pokes: only promised exceptions, and a repair leaves nothing lost, shared or dangling. */
public final class FuzzTest {
    private static final String[] NAMES = {"A", "B", "README", "a", "notes.txt", "fourteen_chars", "long~2",
        "longname", "D", "E", "x!", ".p", ""};
    /** The calls that a run may make before its disk is looked through, which takes the rest of the 512. */
    private static final int CALLS_BEFORE = 170;

    public static void main(String[] args) {
        for (int seed = 0; seed < 4000; seed++) {
            run(seed);
        }
        Rig.end();
    }

    private static void run(int seed) {
        Random random = new Random(seed);
        Rig.sentence("seed " + seed);
        Rig rig = new Rig();
        for (int calls = 0; calls < CALLS_BEFORE; ) {
            calls += step(rig, random);
            if (random.nextInt(8) == 0) {
                calls += disturb(rig, random);
            }
            if (random.nextInt(8) == 0) {
                rig.volume.power();
                rig.repair();
                calls += 2;
            }
        }
        rig.volume.power();
        rig.volume.cut(Integer.MAX_VALUE);
        dueAllowed(rig.repair());
        int writes = rig.writes();
        Rig.due("again", rig.repair() + " " + (rig.writes() - writes), "0 0");
        new Image(rig, seed % 4).dueSound();
    }

    /** Makes a step and answers how many calls it made. */
    private static int step(Rig rig, Random random) {
        String name = NAMES[random.nextInt(NAMES.length)];
        int handle = random.nextInt(5) - 1;
        switch (random.nextInt(9)) {
            case 0:
            case 1:
            case 2:
                dueAllowed(rig.create(name, 1 + random.nextInt(3)));
                return name.length() + 1;
            case 3:
                dueAllowed(rig.delete(name));
                return name.length() + 1;
            case 4:
                dueAllowed(rig.enter(name));
                return name.length() + 1;
            case 5:
                dueAllowed(rig.open(name));
                return name.length() + 1;
            case 6:
                dueAllowed(rig.read(handle, random.nextInt(9)));
                return 1;
            case 7:
                dueAllowed(rig.list(random.nextInt(6) - 1, random.nextInt(48) - 1));
                return 1;
            default:
                for (int i = 0; i < 6; i++) {
                    dueAllowed(rig.write(handle, random.nextLong(), random.nextInt(3) > 0 ? 8 : random.nextInt(10)));
                }
                return 6;
        }
    }

    private static int disturb(Rig rig, Random random) {
        if (random.nextInt(3) > 0) {
            rig.volume.cut(random.nextInt(12));
            return 1;
        }
        int pokes = 1 + random.nextInt(9);
        for (int i = 0; i < pokes; i++) {
            int sector = random.nextBoolean() ? random.nextInt(8) : 8 + random.nextInt(9);
            int value = random.nextBoolean() ? random.nextInt(70) : random.nextInt(256);
            rig.volume.poke(sector, random.nextInt(32), value);
        }
        return pokes;
    }

    private static void dueAllowed(String answer) {
        boolean allowed = !answer.contains("Exception") || answer.equals(Rig.ARGUMENT) || answer.equals(Rig.STATE)
                || answer.equals(Rig.UNSUPPORTED) || answer.equals(Rig.NO_SUCH) || answer.equals(Rig.BOUNDS);
        Rig.due(answer, allowed, true);
    }

    /** The tables of a repaired disk, read once, and the clusters that its directories and files use. */
    private static final class Image {
        private final Rig rig;
        private final int[] cells = new int[64];
        private final boolean[] used = new boolean[64];

        /** The second table is read in a quarter of its cells, to stay within the 512 calls. */
        Image(Rig rig, int quarter) {
            this.rig = rig;
            for (int cell = 0; cell < 64; cell++) {
                cells[cell] = rig.cell(cell);
                if (cell % 4 == quarter) {
                    Rig.due("both tables at " + cell, rig.secondCell(cell), cells[cell]);
                }
            }
        }

        void dueSound() {
            Rig.due("cells 0 and 1", cells[0] + " " + cells[1], "65535 65535");
            use(2);
            useEntries(2, 1);
            for (int cell = 2; cell < 64; cell++) {
                Rig.due("lost " + cell, cells[cell] != 0, used[cell]);
            }
        }

        private int use(int first) {
            int length = 0;
            for (int cluster = first; cluster != 65535; cluster = cells[cluster]) {
                boolean good = cluster > 1 && cluster < 64 && !used[cluster] && cells[cluster] != 0;
                Rig.due("chain at " + cluster, good, true);
                if (!good) {
                    return length;
                }
                used[cluster] = true;
                length++;
            }
            return length;
        }

        private void useEntries(int directory, int depth) {
            for (int cluster = directory; cluster > 1 && cluster < 64; cluster = cells[cluster]) {
                useEntry(cluster + 6, 0, depth);
                useEntry(cluster + 6, 16, depth);
            }
        }

        private void useEntry(int sector, int at, int depth) {
            int mark = rig.octet(sector, at);
            int kind = rig.octet(sector, at + 6);
            if (mark == 0 || mark == 229 || kind == 15) {
                return;
            }
            int first = rig.octet(sector, at + 8) + 256 * rig.octet(sector, at + 9);
            int length = first == 0 ? 0 : use(first);
            Rig.due("kind", kind == 1 || kind == 2 && depth < 5 && first != 0, true);
            if (kind == 1) {
                int size = rig.octet(sector, at + 10) + 256 * rig.octet(sector, at + 11);
                Rig.due("size", (size + 31) / 32, length);
            } else if (depth < 5) {
                useEntries(first, depth + 1);
            }
        }
    }
}
