/** Promise 14. */
public final class RepairTest {
    public static void main(String[] args) {
        whatEnds();
        secondTable();
        badCells();
        rootChain();
        idleParts();
        partsOfFreedEntries();
        otherKinds();
        firstClusters();
        chainsOfFiles();
        sizes();
        sharedClusters();
        restIsNotUsed();
        belowBeforeWhatFollows();
        sixthDirectory();
        lostClusters();
        Rig.end();
    }

    /** The repair must answer so many FIXES by so many writes, and leave nothing for another one. */
    private static void dueFixes(String what, Rig rig, int fixes, int writes) {
        int before = rig.writes();
        Rig.due(what + ", fixes", rig.repair(), fixes);
        Rig.due(what + ", writes", rig.writes() - before, writes);
        Rig.due(what + ", again", rig.repair(), 0);
    }

    /** A file of so many bytes, closed. */
    private static void file(Rig rig, String name, int size) {
        Rig.due("create " + name, rig.file(name), Rig.DONE);
        int handle = Integer.parseInt(rig.open(name));
        rig.append(handle, size);
        rig.volume.close(handle);
    }

    private static void whatEnds() {
        Rig rig = new Rig();
        rig.directory("D");
        rig.enter("D");
        file(rig, "F", 40);
        rig.open("F");
        rig.type("AB");
        Rig.due("sound", rig.repair(), 0);
        Rig.due("handle", rig.look(10), -1);
        Rig.due("HERE", rig.look(3), 2);
        Rig.due("line", rig.look(4), 2);
        Rig.due("the depth, too", rig.directory(""), Rig.DONE);
        rig.volume.cut(0);
        rig.file("Z");
        Rig.due("no power", rig.repair(), Rig.STATE);
    }

    private static void secondTable() {
        Rig rig = new Rig();
        file(rig, "F", 40);
        rig.volume.poke(4, 0, 7);
        rig.volume.poke(4, 6, 9);
        rig.volume.poke(7, 31, 1);
        dueFixes("second table", rig, 3, 3);
        Rig.due("as the first", rig.secondCell(0) + " " + rig.secondCell(3) + " " + rig.secondCell(63), "65535 4 0");
    }

    private static void badCells() {
        for (int value : new int[] {0, 1, 2, 63, 64, 65534}) {
            Rig rig = new Rig();
            rig.pokeBothCells(0, value);
            rig.pokeBothCells(1, value);
            dueFixes("cells 0 and 1 of " + value, rig, 2, 4);
            Rig.due("cells", rig.cell(0) + " " + rig.cell(1), "65535 65535");
        }
        for (int value : new int[] {1, 64, 256, 65534}) {
            Rig rig = new Rig();
            file(rig, "F", 40);
            rig.pokeBothCells(4, value);
            dueFixes("last cell of " + value, rig, 1, 2);
            Rig.due("cell", rig.cell(4) + " " + rig.secondCell(4), "65535 65535");
            rig.pokeCell(60, value);
            dueFixes("lost cell of " + value, rig, 3, 1 + 2 + 2);
            Rig.due("cell", rig.cell(60) + rig.secondCell(60), 0);
        }
    }

    private static void rootChain() {
        Rig rig = new Rig();
        file(rig, "A", 9);
        rig.pokeBothCells(2, 0);
        dueFixes("0", rig, 1, 2);
        rig.pokeBothCells(2, 2);
        dueFixes("itself", rig, 1, 2);
        rig.pokeBothCells(2, 40);
        dueFixes("a free one", rig, 1, 2);
        Rig.due("all there", rig.shortName(0) + rig.list(0, 1) + " " + rig.cell(2) + " " + rig.free(), "A9 65535 60");
        rig.pokeBothCells(2, 3);
        // The file's cluster is the ROOT's now: its entry goes, and 0 1 2 .. 8 are two FREE entries.
        dueFixes("the cluster of a file", rig, 1, 1);
        Rig.due("gone", rig.list(0, 0), Rig.NO_SUCH);
    }

    private static void idleParts() {
        Rig rig = new Rig();
        rig.file("A");
        rig.file("fourteen_chars");
        rig.file("B");
        rig.volume.poke(9, 7, 0);
        dueFixes("a wrong sum", rig, 2, 2);
        Rig.due("both are freed", rig.octet(8, 16) + " " + rig.octet(9, 0), "229 229");
        Rig.due("the file stays", rig.shortName(1) + rig.list(1, 3), "FOUR~10");
        rig.file("b");
        rig.volume.poke(8, 16, 66);
        dueFixes("a wrong number", rig, 1, 1);
        Rig alone = new Rig();
        alone.volume.cut(1);
        alone.file("f");
        alone.volume.power();
        dueFixes("the entry is missing", alone, 1, 1);
        Rig.due("freed", alone.octet(8, 0), 229);
        Rig before = new Rig();
        before.volume.cut(6);
        before.file("fourteen_chars");
        before.volume.power();
        before.file("b");
        dueFixes("a part in front of another name", before, 1, 1);
        Rig.due("which stays", before.octet(8, 0) + " " + before.longName(0), "229 b");
        Rig freed = new Rig();
        freed.file("fourteen_chars");
        freed.volume.poke(9, 0, 229);
        dueFixes("the entry is FREE", freed, 2, 2);
    }

    private static void partsOfFreedEntries() {
        Rig rig = new Rig();
        rig.directory("a.directory.of.two.parts");
        rig.pokePair(9 + 1, 8, 0);
        // The entry, after its parts; and the cluster that it had.
        dueFixes("entry with two parts", rig, 2, 3 + 2);
        Rig.due("freed", rig.octet(8, 0) + " " + rig.octet(8, 16) + " " + rig.octet(10, 0), "229 229 229");
        Rig cut = new Rig();
        cut.directory("a.directory.of.two.parts");
        cut.pokePair(10, 8, 0);
        cut.volume.cut(1);
        Rig.due("cut", cut.repair(), Rig.STATE);
        Rig.due("part 2 goes first", cut.octet(8, 0) + " " + cut.octet(8, 16) + " " + cut.octet(10, 0), "229 1 65");
        cut.volume.power();
        dueFixes("then part 1 alone, the entry, the cluster", cut, 3, 1 + 1 + 2);
    }

    private static void otherKinds() {
        for (int kind : new int[] {0, 3, 14, 16, 255}) {
            Rig rig = new Rig();
            rig.file("A");
            rig.file("B");
            rig.volume.poke(8, 6, kind);
            dueFixes("kind " + kind, rig, 1, 1);
            Rig.due("B stays", rig.shortName(0), "B");
            Rig named = new Rig();
            named.file("f");
            named.volume.poke(8, 22, kind);
            dueFixes("with a part, kind " + kind, named, 2, 2);
        }
        Rig rig = new Rig();
        rig.file("A");
        rig.volume.poke(8, 6, 15);
        dueFixes("a PART that tells nothing", rig, 1, 1);
    }

    private static void firstClusters() {
        for (int first : new int[] {1, 64, 258, 65535, 2, 40}) {
            Rig rig = new Rig();
            rig.file("F");
            rig.pokePair(8, 8, first);
            dueFixes("file at " + first, rig, 1, 1);
            Rig.due("gone", rig.list(0, 0), Rig.NO_SUCH);
        }
        for (int first : new int[] {0, 1, 64, 2, 40}) {
            Rig rig = new Rig();
            rig.directory("D");
            rig.pokePair(8, 8, first);
            dueFixes("directory at " + first, rig, 2, 1 + 2);
            Rig.due("free", rig.free(), 61);
        }
        Rig rig = new Rig();
        rig.file("F");
        rig.volume.poke(60, 0, 1);
        dueFixes("a file without a cluster", rig, 0, 0);
        rig.pokePair(8, 8, 3);
        rig.pokeBothCells(3, 65535);
        rig.pokePair(8, 10, 32);
        dueFixes("a file with one", rig, 0, 0);
        rig.pokePair(8, 8, 63);
        rig.pokeBothCells(63, 3);
        rig.pokePair(8, 10, 64);
        dueFixes("a file with the last one", rig, 0, 0);
    }

    private static void chainsOfFiles() {
        Rig rig = new Rig();
        file(rig, "F", 96);
        rig.pokeBothCells(5, 3);
        dueFixes("a circle", rig, 1, 2);
        rig.pokeBothCells(5, 50);
        dueFixes("a free one behind", rig, 1, 2);
        rig.pokeBothCells(5, 2);
        dueFixes("the ROOT behind", rig, 1, 2);
        Rig.due("all there", rig.list(0, 1) + " " + rig.cell(3) + " " + rig.cell(4) + " " + rig.cell(5), "96 4 5 65535");
        rig.pokeBothCells(4, 0);
        dueFixes("a hole: the cell, the size, the lost one", rig, 3, 2 + 1 + 2);
        Rig.due("left", rig.list(0, 1) + " " + rig.free(), "32 60");
    }

    private static void sizes() {
        int[][] cases = {{96, 0, 0}, {65, 0, 0}, {64, 1, 1}, {33, 1, 1}, {32, 2, 1}, {1, 2, 1}, {97, 0, 1}, {65535, 0, 1}};
        for (int[] one : cases) {
            Rig rig = new Rig();
            file(rig, "F", 96);
            rig.pokePair(8, 10, one[0]);
            int cells = one[1] > 0 ? 2 * (1 + one[1]) : one[2];
            dueFixes("size " + one[0], rig, one[1] + one[2], cells);
            Rig.due("size", rig.list(0, 1), Math.min(one[0], 96));
            Rig.due("free", rig.free(), 58 + one[1]);
        }
        Rig rig = new Rig();
        file(rig, "F", 96);
        rig.pokePair(8, 10, 0);
        dueFixes("size 0", rig, 4, 1 + 6);
        Rig.due("no first cluster", rig.list(0, 2) + " " + rig.free(), "0 61");
        rig.pokePair(8, 10, 5);
        dueFixes("size without a cluster", rig, 1, 1);
        Rig.due("size", rig.list(0, 1), 0);
        Rig directory = new Rig();
        directory.directory("D");
        directory.pokePair(8, 10, 5000);
        dueFixes("the size of a directory", directory, 0, 0);
    }

    private static void sharedClusters() {
        Rig rig = new Rig();
        file(rig, "A", 64);
        file(rig, "B", 64);
        rig.pokeBothCells(5, 4);
        // B is cut behind its first cluster, its size follows, its second one is lost.
        dueFixes("the first one keeps it", rig, 3, 2 + 1 + 2);
        Rig.due("sizes", rig.list(0, 1) + " " + rig.list(1, 1), "64 32");
        rig.pokePair(8, 16 + 8, 4);
        dueFixes("the first cluster of B is of A", rig, 2, 1 + 2);
        Rig.due("left", rig.shortName(0) + " " + rig.list(1, 0), "A " + Rig.NO_SUCH);
    }

    private static void restIsNotUsed() {
        Rig rig = new Rig();
        file(rig, "A", 96);
        rig.file("B");
        rig.pokePair(8, 10, 32);
        rig.pokePair(8, 16 + 8, 4);
        rig.pokePair(8, 16 + 10, 64);
        dueFixes("the rest goes to B", rig, 1, 2);
        Rig.due("sizes", rig.list(0, 1) + " " + rig.list(1, 1) + " " + rig.free(), "32 64 58");
        rig.pokePair(8, 10, 0);
        rig.pokePair(8, 16 + 8, 3);
        rig.pokePair(8, 16 + 10, 32);
        dueFixes("the first cluster goes to B", rig, 3, 1 + 4);
        Rig.due("clusters", rig.list(0, 2) + " " + rig.list(1, 2), "0 3");
    }

    private static void belowBeforeWhatFollows() {
        Rig rig = new Rig();
        rig.directory("D");
        file(rig, "B", 32);
        rig.enter("D");
        file(rig, "A", 32);
        rig.pokePair(9, 8, 4);
        // A, below, comes before B, which shares its cluster then; the one that A had is lost.
        dueFixes("below comes first", rig, 2, 1 + 2);
        Rig.due("B is gone", rig.list(1, 0), Rig.NO_SUCH);
        rig.enter("D");
        Rig.due("A stays", rig.shortName(0), "A");
        Rig two = new Rig();
        two.directory("D");
        two.directory("E");
        two.enter("D");
        two.directory("X");
        two.pokePair(9, 8, 4);
        // D/X gets the cluster of E, so E is freed; the one that X had is lost.
        dueFixes("a directory in two", two, 2, 1 + 2);
        Rig.due("E is gone", two.list(1, 0), Rig.NO_SUCH);
    }

    private static void sixthDirectory() {
        Rig rig = new Rig();
        for (int depth = 1; depth < 5; depth++) {
            rig.directory("D");
            rig.enter("D");
        }
        int fifth = rig.look(3);
        file(rig, "f", 32);
        rig.volume.poke(fifth + 6, 16 + 6, 2);
        // The entry with its part is one FIX, its cluster another one.
        dueFixes("a sixth one", rig, 2, 2 + 2);
        Rig.due("freed", rig.octet(fifth + 6, 0) + " " + rig.octet(fifth + 6, 16), "229 229");
        for (int depth = 1; depth < 5; depth++) {
            Rig.due("the others stay", rig.enter("D"), Rig.DONE);
        }
        Rig.due("empty", rig.list(0, 0), Rig.NO_SUCH);
    }

    private static void lostClusters() {
        Rig rig = new Rig();
        rig.pokeBothCells(40, 41);
        rig.pokeBothCells(41, 40);
        rig.pokeBothCells(63, 65535);
        Rig.due("taken", rig.free(), 58);
        dueFixes("lost", rig, 3, 6);
        Rig.due("free", rig.free(), 61);
    }
}
