/** Promise 14. */
public final class RepairTest {
    public static void main(String[] args) {
        whatEnds();
        secondTable();
        badCells();
        rootChain();
        idleParts();
        partsOfFreedEntries();
        otherKinds();
        firstClusters();
        chainsOfFiles();
        sizes();
        sharedClusters();
        restIsNotUsed();
        belowBeforeWhatFollows();
        sixthDirectory();
        lostClusters();
        Rig.end();
    }

    private static void whatEnds() {
        Rig rig = new Rig();
        rig.directory("D");
        rig.enter("D");
        rig.fileOf("F", 40);
        rig.open("F");
        rig.type("AB");
        Rig.due("sound", rig.repair(), 0);
        Rig.due("handle", rig.look(10), -1);
        Rig.due("HERE", rig.look(3), 2);
        Rig.due("line", rig.look(4), 2);
        Rig.due("the depth, too", rig.directory(""), Rig.DONE);
        rig.volume.cut(0);
        rig.file("Z");
        Rig.due("no power", rig.repair(), Rig.STATE);
    }

    private static void secondTable() {
        Rig rig = new Rig();
        rig.fileOf("F", 40);
        rig.volume.poke(4, 0, 7);
        rig.volume.poke(4, 6, 9);
        rig.volume.poke(7, 31, 1);
        rig.dueFixes("second table", 3, 3);
        Rig.due("as the first", rig.secondCell(0) + " " + rig.secondCell(3) + " " + rig.secondCell(63), "65535 4 0");
    }

    private static void badCells() {
        for (int value : new int[] {0, 1, 2, 63, 64, 65534}) {
            Rig rig = new Rig();
            rig.pokeBothCells(0, value);
            rig.pokeBothCells(1, value);
            rig.dueFixes("cells 0 and 1 of " + value, 2, 4);
            Rig.due("cells", rig.cell(0) + " " + rig.cell(1), "65535 65535");
        }
        for (int value : new int[] {1, 64, 256, 65534}) {
            Rig rig = new Rig();
            rig.fileOf("F", 40);
            rig.pokeBothCells(4, value);
            rig.dueFixes("last cell of " + value, 1, 2);
            Rig.due("cell", rig.cell(4) + " " + rig.secondCell(4), "65535 65535");
            rig.pokeCell(60, value);
            rig.dueFixes("lost cell of " + value, 3, 1 + 2 + 2);
            Rig.due("cell", rig.cell(60) + rig.secondCell(60), 0);
        }
    }

    private static void rootChain() {
        Rig rig = new Rig();
        rig.fileOf("A", 9);
        rig.pokeBothCells(2, 0);
        rig.dueFixes("0", 1, 2);
        rig.pokeBothCells(2, 2);
        rig.dueFixes("itself", 1, 2);
        rig.pokeBothCells(2, 40);
        rig.dueFixes("a free one", 1, 2);
        Rig.due("all there", rig.shortName(0) + rig.list(0, 1) + " " + rig.cell(2) + " " + rig.free(), "A9 65535 60");
        rig.pokeBothCells(2, 3);
        // The file's cluster is the ROOT's now: its entry goes, and 0 1 2 .. 8 are two FREE entries.
        rig.dueFixes("the cluster of a file", 1, 1);
        Rig.due("gone", rig.list(0, 0), Rig.NO_SUCH);
    }

    private static void idleParts() {
        Rig rig = new Rig();
        rig.file("A");
        rig.file("fourteen_chars");
        rig.file("B");
        rig.volume.poke(9, 7, 0);
        rig.dueFixes("a wrong sum", 2, 2);
        Rig.due("both are freed", rig.octet(8, 16) + " " + rig.octet(9, 0), "229 229");
        Rig.due("the file stays", rig.shortName(1) + rig.list(1, 3), "FOUR~10");
        rig.file("b");
        rig.volume.poke(8, 16, 66);
        rig.dueFixes("a wrong number", 1, 1);
        Rig alone = new Rig();
        alone.volume.cut(1);
        alone.file("f");
        alone.volume.power();
        alone.dueFixes("the entry is missing", 1, 1);
        Rig.due("freed", alone.octet(8, 0), 229);
        Rig before = new Rig();
        before.volume.cut(6);
        before.file("fourteen_chars");
        before.volume.power();
        before.file("b");
        before.dueFixes("a part in front of another name", 1, 1);
        Rig.due("which stays", before.octet(8, 0) + " " + before.longName(0), "229 b");
        Rig freed = new Rig();
        freed.file("fourteen_chars");
        freed.volume.poke(9, 0, 229);
        freed.dueFixes("the entry is FREE", 2, 2);
    }

    private static void partsOfFreedEntries() {
        Rig rig = new Rig();
        rig.directory("a.directory.of.two.parts");
        rig.pokePair(9 + 1, 8, 0);
        // The entry, after its parts; and the cluster that it had.
        rig.dueFixes("entry with two parts", 2, 3 + 2);
        Rig.due("freed", rig.octet(8, 0) + " " + rig.octet(8, 16) + " " + rig.octet(10, 0), "229 229 229");
        Rig cut = new Rig();
        cut.directory("a.directory.of.two.parts");
        cut.pokePair(10, 8, 0);
        cut.volume.cut(1);
        Rig.due("cut", cut.repair(), Rig.STATE);
        Rig.due("a part goes first", cut.freedIn(8) + " " + cut.octet(10, 0), "1 65");
        cut.volume.power();
        cut.dueFixes("then the other part alone, the entry, the cluster", 3, 1 + 1 + 2);
    }

    private static void otherKinds() {
        for (int kind : new int[] {0, 3, 14, 16, 255}) {
            Rig rig = new Rig();
            rig.file("A");
            rig.file("B");
            rig.volume.poke(8, 6, kind);
            rig.dueFixes("kind " + kind, 1, 1);
            Rig.due("B stays", rig.shortName(0), "B");
            Rig named = new Rig();
            named.file("f");
            named.volume.poke(8, 22, kind);
            named.dueFixes("with a part, kind " + kind, 2, 2);
        }
        Rig rig = new Rig();
        rig.file("A");
        rig.volume.poke(8, 6, 15);
        rig.dueFixes("a PART that tells nothing", 1, 1);
    }

    private static void firstClusters() {
        for (int first : new int[] {1, 64, 258, 65535, 2, 40}) {
            Rig rig = new Rig();
            rig.file("F");
            rig.pokePair(8, 8, first);
            rig.dueFixes("file at " + first, 1, 1);
            Rig.due("gone", rig.list(0, 0), Rig.NO_SUCH);
        }
        for (int first : new int[] {0, 1, 64, 2, 40}) {
            Rig rig = new Rig();
            rig.directory("D");
            rig.pokePair(8, 8, first);
            rig.dueFixes("directory at " + first, 2, 1 + 2);
            Rig.due("free", rig.free(), 61);
        }
        Rig rig = new Rig();
        rig.file("F");
        rig.volume.poke(60, 0, 1);
        rig.dueFixes("a file without a cluster", 0, 0);
        rig.pokePair(8, 8, 3);
        rig.pokeBothCells(3, 65535);
        rig.pokePair(8, 10, 32);
        rig.dueFixes("a file with one", 0, 0);
        rig.pokePair(8, 8, 63);
        rig.pokeBothCells(63, 3);
        rig.pokePair(8, 10, 64);
        rig.dueFixes("a file with the last one", 0, 0);
    }

    private static void chainsOfFiles() {
        Rig rig = new Rig();
        rig.fileOf("F", 96);
        rig.pokeBothCells(5, 3);
        rig.dueFixes("a circle", 1, 2);
        rig.pokeBothCells(5, 50);
        rig.dueFixes("a free one behind", 1, 2);
        rig.pokeBothCells(5, 2);
        rig.dueFixes("the ROOT behind", 1, 2);
        Rig.due("all there", rig.list(0, 1) + " " + rig.cell(3) + " " + rig.cell(4) + " " + rig.cell(5), "96 4 5 65535");
        rig.pokeBothCells(4, 0);
        rig.dueFixes("a hole: the cell, the size, the lost one", 3, 2 + 1 + 2);
        Rig.due("left", rig.list(0, 1) + " " + rig.free(), "32 60");
    }

    private static void sizes() {
        int[][] cases = {{96, 0, 0}, {65, 0, 0}, {64, 1, 1}, {33, 1, 1}, {32, 2, 1}, {1, 2, 1}, {97, 0, 1}, {65535, 0, 1}};
        for (int[] one : cases) {
            Rig rig = new Rig();
            rig.fileOf("F", 96);
            rig.pokePair(8, 10, one[0]);
            int cells = one[1] > 0 ? 2 * (1 + one[1]) : one[2];
            rig.dueFixes("size " + one[0], one[1] + one[2], cells);
            Rig.due("size", rig.list(0, 1), Math.min(one[0], 96));
            Rig.due("free", rig.free(), 58 + one[1]);
        }
        Rig rig = new Rig();
        rig.fileOf("F", 96);
        rig.pokePair(8, 10, 0);
        rig.dueFixes("size 0", 4, 1 + 6);
        Rig.due("no first cluster", rig.list(0, 2) + " " + rig.free(), "0 61");
        rig.pokePair(8, 10, 5);
        rig.dueFixes("size without a cluster", 1, 1);
        Rig.due("size", rig.list(0, 1), 0);
        Rig directory = new Rig();
        directory.directory("D");
        directory.pokePair(8, 10, 5000);
        directory.dueFixes("the size of a directory", 0, 0);
    }

    private static void sharedClusters() {
        Rig rig = new Rig();
        rig.fileOf("A", 64);
        rig.fileOf("B", 64);
        rig.pokeBothCells(5, 4);
        // B is cut behind its first cluster, its size follows, its second one is lost.
        rig.dueFixes("the first one keeps it", 3, 2 + 1 + 2);
        Rig.due("sizes", rig.list(0, 1) + " " + rig.list(1, 1), "64 32");
        rig.pokePair(8, 16 + 8, 4);
        rig.dueFixes("the first cluster of B is of A", 2, 1 + 2);
        Rig.due("left", rig.shortName(0) + " " + rig.list(1, 0), "A " + Rig.NO_SUCH);
    }

    private static void restIsNotUsed() {
        Rig rig = new Rig();
        rig.fileOf("A", 96);
        rig.file("B");
        rig.pokePair(8, 10, 32);
        rig.pokePair(8, 16 + 8, 4);
        rig.pokePair(8, 16 + 10, 64);
        rig.dueFixes("the rest goes to B", 1, 2);
        Rig.due("sizes", rig.list(0, 1) + " " + rig.list(1, 1) + " " + rig.free(), "32 64 58");
        rig.pokePair(8, 10, 0);
        rig.pokePair(8, 16 + 8, 3);
        rig.pokePair(8, 16 + 10, 32);
        rig.dueFixes("the first cluster goes to B", 3, 1 + 4);
        Rig.due("clusters", rig.list(0, 2) + " " + rig.list(1, 2), "0 3");
    }

    private static void belowBeforeWhatFollows() {
        Rig rig = new Rig();
        rig.directory("D");
        rig.fileOf("B", 32);
        rig.enter("D");
        rig.fileOf("A", 32);
        rig.pokePair(9, 8, 4);
        // A, below, comes before B, which shares its cluster then; the one that A had is lost.
        rig.dueFixes("below comes first", 2, 1 + 2);
        Rig.due("B is gone", rig.list(1, 0), Rig.NO_SUCH);
        rig.enter("D");
        Rig.due("A stays", rig.shortName(0), "A");
        Rig two = new Rig();
        two.directory("D");
        two.directory("E");
        two.enter("D");
        two.directory("X");
        two.pokePair(9, 8, 4);
        // D/X gets the cluster of E, so E is freed; the one that X had is lost.
        two.dueFixes("a directory in two", 2, 1 + 2);
        Rig.due("E is gone", two.list(1, 0), Rig.NO_SUCH);
    }

    private static void sixthDirectory() {
        Rig rig = new Rig();
        for (int depth = 1; depth < 5; depth++) {
            rig.directory("D");
            rig.enter("D");
        }
        int fifth = rig.look(3);
        rig.fileOf("f", 32);
        rig.volume.poke(fifth + 6, 16 + 6, 2);
        // The entry with its part is one FIX, its cluster another one.
        rig.dueFixes("a sixth one", 2, 2 + 2);
        Rig.due("freed", rig.octet(fifth + 6, 0) + " " + rig.octet(fifth + 6, 16), "229 229");
        for (int depth = 1; depth < 5; depth++) {
            Rig.due("the others stay", rig.enter("D"), Rig.DONE);
        }
        Rig.due("empty", rig.list(0, 0), Rig.NO_SUCH);
    }

    private static void lostClusters() {
        Rig rig = new Rig();
        rig.pokeBothCells(40, 41);
        rig.pokeBothCells(41, 40);
        rig.pokeBothCells(63, 65535);
        Rig.due("taken", rig.free(), 58);
        rig.dueFixes("lost", 3, 6);
        Rig.due("free", rig.free(), 61);
    }
}
