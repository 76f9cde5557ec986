/** The edges of REPAIR (promise 14), a test for each sentence. */
public final class EdgesOfRepairTest {
    public static void main(String[] args) {
        secondTableDiffers();
        secondTableFromZeroOn();
        cellsZeroAndOne();
        cellsAboveOne();
        secondTableComesBeforeCells();
        entriesInOrder();
        belowBeforeWhatFollows();
        chainMeetsAFreeOne();
        chainMeetsAUsedOne();
        chainOfADirectory();
        chainOfTheRoot();
        rootsFirstCell();
        freeEntriesAreLeft();
        partThatTellsNothing();
        partAtTheEndOfADirectory();
        partsInAnotherCluster();
        anotherKind();
        firstClusterOneOrAbove();
        firstClusterFreeOrUsed();
        firstClusterZero();
        partsBeforeTheEntry();
        sizeNeedsFewer();
        sizeNeedsNone();
        restIsNotUsed();
        sizeNeedsMore();
        sizeOfADirectory();
        lostCells();
        lostCellsFromTwoOn();
        sixthDirectory();
        whatARepairEnds();
        repairWithoutPower();
        soundDisk();
        Rig.end();
    }

    private static Rig withFile(int size) {
        Rig rig = new Rig();
        rig.fileOf("F", size);
        return rig;
    }

    private static void secondTableDiffers() {
        Rig.sentence("Each cell .. of the second table that differs is made like the first one (a write; a FIX).");
        int[][] places = {{4, 0}, {4, 1}, {4, 5}, {4, 31}, {5, 0}, {7, 30}, {7, 31}};
        for (int[] place : places) {
            Rig rig = new Rig();
            int was = rig.octet(place[0], place[1]);
            rig.volume.poke(place[0], place[1], 255 - was);
            rig.dueFixes("byte " + place[1] + " of " + place[0], 1, 1);
            Rig.due("as before", rig.octet(place[0], place[1]), was);
        }
        Rig both = new Rig();
        both.pokePair(4, 6, 0x0102);
        both.dueFixes("both bytes of a cell", 1, 1);
        Rig two = new Rig();
        two.volume.poke(4, 7, 1);
        two.volume.poke(4, 8, 1);
        two.dueFixes("a byte of two cells", 2, 2);
    }

    private static void secondTableFromZeroOn() {
        Rig.sentence("Each cell, from 0 on");
        for (int k = 0; k < 3; k++) {
            Rig rig = new Rig();
            rig.volume.poke(4, 0, 1);
            rig.volume.poke(5, 0, 1);
            rig.volume.poke(7, 30, 1);
            rig.volume.cut(k);
            Rig.due("cut", rig.repair(), Rig.STATE);
            Rig.due("after " + k, rig.octet(4, 0) + " " + rig.octet(5, 0) + " " + rig.octet(7, 30),
                    (k > 0 ? 255 : 1) + " " + (k > 1 ? 0 : 1) + " 1");
        }
    }

    private static void cellsZeroAndOne() {
        Rig.sentence("Then cells 0 and 1, if they are not 65535, .. are SET to 65535 (a FIX each).");
        for (int cell = 0; cell < 2; cell++) {
            for (int value : new int[] {0, 1, 2, 63, 64, 255, 65280, 65534}) {
                Rig rig = new Rig();
                rig.pokeBothCells(cell, value);
                rig.dueFixes("cell " + cell + " of " + value, 1, 2);
                Rig.due("cells", rig.cell(cell) + " " + rig.secondCell(cell), "65535 65535");
            }
        }
    }

    private static void cellsAboveOne() {
        Rig.sentence("and cells above 1 that are 1 or 64 .. 65534, are SET to 65535 (a FIX each).");
        for (int value : new int[] {1, 64, 65, 255, 256, 258, 65279, 65534}) {
            Rig rig = withFile(32);
            rig.pokeBothCells(3, value);
            rig.dueFixes("cell 3 of " + value, 1, 2);
            Rig.due("cells", rig.cell(3) + " " + rig.secondCell(3), "65535 65535");
            Rig root = new Rig();
            root.pokeBothCells(2, value);
            root.dueFixes("cell 2 of " + value, 1, 2);
            Rig last = new Rig();
            last.pokeBothCells(63, value);
            last.dueFixes("cell 63 of " + value + ", then lost", 2, 4);
        }
        Rig rig = withFile(32);
        rig.pokeBothCells(3, 63);
        rig.pokeBothCells(63, 65535);
        rig.pokePair(8, 10, 64);
        rig.dueFixes("63 and 65535 are good ones", 0, 0);
        Rig two = withFile(32);
        two.pokeBothCells(3, 2);
        two.dueFixes("2 is looked at later", 1, 2);
    }

    private static void secondTableComesBeforeCells() {
        Rig.sentence("1. Each cell .. of the second table ... Then cells 0 and 1");
        Rig rig = new Rig();
        rig.volume.poke(0, 0, 7);
        rig.volume.cut(1);
        Rig.due("cut", rig.repair(), Rig.STATE);
        Rig.due("the second is made like the first", rig.octet(0, 0) + " " + rig.octet(4, 0), "7 7");
        rig.volume.power();
        rig.dueFixes("then the cell", 1, 2);
        Rig one = new Rig();
        one.pokeCell(9, 1);
        one.dueFixes("a bad cell in one table: made like, SET, lost", 3, 1 + 2 + 2);
    }

    private static void entriesInOrder() {
        Rig.sentence("directories are gone through, each entry in order");
        Rig rig = new Rig();
        rig.fileOf("A", 32);
        rig.fileOf("B", 32);
        rig.fileOf("C", 32);
        rig.pokePair(8, 16 + 8, 3);
        rig.pokePair(9 + 2, 8, 3);
        // A has its cluster, B and C lose theirs: two entries, two lost clusters.
        rig.dueFixes("the first one keeps it", 4, 2 + 4);
        Rig.due("left", rig.shortName(0) + " " + rig.list(1, 0), "A " + Rig.NO_SUCH);
    }

    private static void belowBeforeWhatFollows() {
        Rig.sentence("and a directory below when its entry comes, before what follows.");
        Rig rig = new Rig();
        rig.fileOf("A", 32);
        rig.directory("D");
        rig.fileOf("B", 32);
        rig.enter("D");
        rig.fileOf("E", 32);
        rig.fileOf("F", 32);
        int sector = rig.look(3) + 6;
        rig.enter("");
        rig.pokePair(sector, 8, firstClusterOf(rig, "A"));
        rig.pokePair(sector, 16 + 8, firstClusterOf(rig, "B"));
        // E shares with A, which came before; F shares with B, which comes later.
        rig.dueFixes("E and B go", 4, 2 + 4);
        Rig.due("A and D stay", rig.shortName(0) + rig.shortName(1) + rig.list(2, 0), "AD" + Rig.NO_SUCH);
        rig.enter("D");
        Rig.due("F stays", rig.shortName(0) + rig.list(1, 0), "F" + Rig.NO_SUCH);
    }

    /** The first cluster of a file of the ROOT, found on the disk, since a poked disk can't be listed. */
    private static int firstClusterOf(Rig rig, String name) {
        for (int cluster = 2; cluster < 64; cluster = rig.cell(cluster)) {
            for (int at = 0; at < 32; at += 16) {
                if (rig.octet(cluster + 6, at) == name.charAt(0)) {
                    return rig.octet(cluster + 6, at + 8);
                }
            }
        }
        return -1;
    }

    private static void chainMeetsAFreeOne() {
        Rig.sentence("at one that is 0 (free), .. the cell before is SET to 65535 (a FIX); the chain ends there.");
        Rig rig = withFile(32);
        rig.pokeBothCells(3, 50);
        rig.dueFixes("behind the end", 1, 2);
        Rig.due("the free one stays", rig.cell(3) + " " + rig.cell(50) + " " + rig.list(0, 1), "65535 0 32");
        Rig hole = withFile(96);
        hole.pokeBothCells(4, 0);
        hole.dueFixes("in the middle: the cell, the size, a lost one", 3, 2 + 1 + 2);
        Rig.due("left", hole.list(0, 1) + " " + hole.cell(3) + " " + hole.free(), "32 65535 60");
    }

    private static void chainMeetsAUsedOne() {
        Rig.sentence("or USED already, the cell before is SET to 65535 (a FIX); the chain ends there.");
        for (int back = 3; back <= 5; back++) {
            Rig rig = withFile(96);
            rig.pokeBothCells(5, back);
            rig.dueFixes("a circle to " + back, 1, 2);
            Rig.due("left", rig.list(0, 1) + " " + rig.cell(5), "96 65535");
        }
        Rig root = withFile(32);
        root.pokeBothCells(3, 2);
        root.dueFixes("the ROOT", 1, 2);
        Rig shared = new Rig();
        shared.fileOf("A", 64);
        shared.fileOf("B", 64);
        shared.pokeBothCells(6, 4);
        shared.dueFixes("a file before", 1, 2);
        Rig.due("both are there", shared.list(0, 1) + " " + shared.list(1, 1) + " " + shared.cell(6), "64 64 65535");
    }

    private static void chainOfADirectory() {
        Rig.sentence("Otherwise its chain is followed");
        Rig rig = new Rig();
        rig.directory("D");
        rig.enter("D");
        for (int i = 0; i < 4; i++) {
            rig.file("F" + i);
        }
        rig.pokeBothCells(4, 3);
        rig.dueFixes("a circle in a directory", 1, 2);
        rig.enter("D");
        Rig.due("its entries stay", rig.shortName(3) + rig.list(4, 0), "F3" + Rig.NO_SUCH);
        rig.pokeBothCells(3, 60);
        rig.dueFixes("a free one behind its first", 2, 4);
        rig.enter("D");
        Rig.due("the others are lost", rig.shortName(1) + rig.list(2, 0) + rig.free(), "F1" + Rig.NO_SUCH + 60);
    }

    private static void chainOfTheRoot() {
        Rig.sentence("To FOLLOW a chain: cluster by cluster, each is USED");
        for (int next : new int[] {2, 50}) {
            Rig rig = new Rig();
            rig.file("A");
            rig.pokeBothCells(2, next);
            rig.dueFixes("the ROOT's cell " + next, 1, 2);
            Rig.due("its entry stays", rig.shortName(0) + " " + rig.cell(2), "A 65535");
        }
        Rig rig = new Rig();
        for (int i = 0; i < 5; i++) {
            rig.file("F" + i);
        }
        rig.pokePair(8, 8, 4);
        rig.dueFixes("the ROOT's last cluster is USED", 1, 1);
        Rig.due("so the file is gone", rig.shortName(0) + rig.shortName(3), "F1F4");
    }

    private static void rootsFirstCell() {
        Rig.sentence("The ROOT's first cell is SET to 65535, if it is 0 (a FIX).");
        Rig rig = new Rig();
        rig.file("A");
        rig.pokeBothCells(2, 0);
        rig.dueFixes("0", 1, 2);
        Rig.due("cells", rig.cell(2) + " " + rig.secondCell(2) + " " + rig.shortName(0), "65535 65535 A");
        for (int i = 0; i < 4; i++) {
            rig.file("F" + i);
        }
        rig.pokeBothCells(2, 0);
        rig.dueFixes("0, the others are lost", 3, 6);
        Rig.due("left", rig.shortName(0) + rig.shortName(1) + rig.list(2, 0), "AF0" + Rig.NO_SUCH);
    }

    private static void freeEntriesAreLeft() {
        Rig.sentence("An entry that is not FREE:");
        for (int mark : new int[] {0, 229}) {
            Rig rig = withFile(0);
            rig.volume.poke(8, 0, mark);
            rig.volume.poke(8, 6, 99);
            rig.pokePair(8, 8, 2);
            rig.pokePair(8, 10, 5000);
            rig.dueFixes("FREE by " + mark, 0, 0);
            Rig.due("its bytes stay", rig.octet(8, 0) + " " + rig.octet(8, 6), mark + " 99");
        }
    }

    private static void partThatTellsNothing() {
        Rig.sentence("a PART that does not tell the long name of an entry of kind 1 or 2 behind it is FREED: byte 0 becomes 229 (a write, a FIX)");
        int[][] pokes = {{0, 66}, {0, 1}, {7, 0}, {16, 'B'}, {16, 229}, {16, 0}, {22, 3}};
        int[] fixes = {1, 1, 1, 1, 1, 1, 2};
        for (int i = 0; i < pokes.length; i++) {
            Rig rig = new Rig();
            rig.file("a");
            rig.volume.poke(8, pokes[i][0], pokes[i][1]);
            rig.dueFixes("poke " + pokes[i][1] + " at " + pokes[i][0], fixes[i], fixes[i]);
            Rig.due("only byte 0", rig.octet(8, 0) + " " + rig.octet(8, 1) + " " + rig.octet(8, 6), "229 97 15");
        }
        for (int kind = 1; kind <= 2; kind++) {
            Rig rig = new Rig();
            rig.create("a", kind);
            rig.create("fourteen.chars", kind);
            rig.volume.poke(60, 0, 1);
            rig.dueFixes("parts that tell, kind " + kind, 0, 0);
        }
    }

    private static void partAtTheEndOfADirectory() {
        Rig.sentence("a PART that does not tell the long name of an entry of kind 1 or 2 behind it is FREED");
        Rig rig = new Rig();
        rig.directory("D");
        rig.file("f");
        // The ROOT's third entry is F~1; the part of D, at D's end, has its SUM, but stands elsewhere.
        int sum = rig.octet(8, 16 + 7);
        rig.volume.poke(9, 16, 65);
        rig.volume.poke(9, 16 + 6, 15);
        rig.volume.poke(9, 16 + 7, sum);
        rig.dueFixes("nothing is behind it", 1, 1);
        Rig.due("freed", rig.octet(9, 16) + " " + rig.longName(1), "229 f");
    }

    private static void partsInAnotherCluster() {
        Rig.sentence("the parts that tell its long name");
        Rig rig = new Rig();
        rig.file("A");
        rig.file("fourteen.chars");
        Rig.due("over the end of a cluster", rig.octet(8, 16) + " " + rig.octet(9, 0), "66 1");
        rig.volume.poke(60, 0, 1);
        rig.dueFixes("they tell", 0, 0);
        rig.volume.poke(9, 16 + 8, 1);
        rig.dueFixes("they go together", 1, 3);
        Rig.due("freed", rig.octet(8, 16) + " " + rig.octet(9, 0) + " " + rig.octet(9, 16), "229 229 229");
    }

    private static void anotherKind() {
        Rig.sentence("so is an entry of another kind than 1, 2, 15");
        for (int kind : new int[] {0, 3, 14, 16, 255}) {
            Rig rig = withFile(32);
            rig.file("G");
            rig.volume.poke(8, 6, kind);
            rig.dueFixes("kind " + kind + ", and its cluster", 2, 1 + 2);
            Rig.due("freed", rig.octet(8, 0) + " " + rig.shortName(0), "229 G");
        }
    }

    private static void firstClusterOneOrAbove() {
        Rig.sentence("or whose first cluster is 1 or above 63");
        for (int first : new int[] {1, 64, 65, 255, 256, 259, 65535}) {
            for (int kind = 1; kind <= 2; kind++) {
                Rig rig = new Rig();
                rig.create("F", kind);
                rig.pokePair(8, 8, first);
                rig.dueFixes("kind " + kind + " at " + first, kind, kind == 1 ? 1 : 1 + 2);
                Rig.due("gone", rig.octet(8, 0) + " " + rig.free(), "229 61");
            }
        }
        Rig rig = withFile(32);
        rig.pokeBothCells(63, 65535);
        rig.pokePair(8, 8, 63);
        rig.dueFixes("63 is a cluster; the other one is lost", 1, 2);
        Rig.due("stays", rig.list(0, 2), 63);
    }

    private static void firstClusterFreeOrUsed() {
        Rig.sentence("or free or USED");
        for (int first : new int[] {2, 40}) {
            for (int kind = 1; kind <= 2; kind++) {
                Rig rig = new Rig();
                rig.create("F", kind);
                rig.pokePair(8, 8, first);
                rig.dueFixes("kind " + kind + " at " + first, kind, kind == 1 ? 1 : 1 + 2);
                Rig.due("gone", rig.octet(8, 0) + " " + rig.free(), "229 61");
            }
        }
        Rig loop = new Rig();
        loop.directory("D");
        loop.enter("D");
        loop.directory("E");
        loop.pokePair(9, 8, 3);
        loop.dueFixes("a directory in itself, and a lost one", 2, 1 + 2);
        loop.enter("D");
        Rig.due("gone", loop.list(0, 0), Rig.NO_SUCH);
    }

    private static void firstClusterZero() {
        Rig.sentence("or is 0 with kind 2");
        Rig rig = new Rig();
        rig.file("F");
        rig.volume.poke(60, 0, 1);
        rig.dueFixes("0 with kind 1", 0, 0);
        rig.volume.poke(8, 6, 2);
        rig.dueFixes("0 with kind 2", 1, 1);
        Rig.due("gone", rig.octet(8, 0), 229);
    }

    private static void partsBeforeTheEntry() {
        Rig.sentence("but byte 0 of the parts that tell its long name before that (a write each; together a FIX).");
        for (int k = 0; k <= 3; k++) {
            Rig rig = new Rig();
            rig.file("fourteen.chars");
            rig.pokePair(9, 8, 1);
            rig.volume.cut(k);
            Rig.due("repair", rig.repair(), k < 3 ? Rig.STATE : "1");
            Rig.due("the entry after " + k, rig.octet(9, 0), k > 2 ? 229 : 70);
            Rig.due("parts after " + k, rig.freedIn(8), Math.min(k, 2));
        }
        Rig one = new Rig();
        one.file("a");
        one.pokePair(8, 16 + 8, 2);
        one.dueFixes("one part", 1, 2);
        Rig two = new Rig();
        two.file("fourteen.chars");
        two.pokePair(9, 8, 2);
        two.dueFixes("two parts", 1, 3);
    }

    private static void sizeNeedsFewer() {
        Rig.sentence("if the size needs fewer clusters than the chain has, the cell of the last needed one is SET to 65535");
        int[][] cases = {{1, 1}, {31, 1}, {32, 1}, {33, 2}, {64, 2}, {65, 3}, {95, 3}, {96, 3}};
        for (int[] one : cases) {
            Rig rig = withFile(96);
            rig.pokePair(8, 10, one[0]);
            int lost = 3 - one[1];
            rig.dueFixes("size " + one[0], lost == 0 ? 0 : 1 + lost, lost == 0 ? 0 : 2 + 2 * lost);
            Rig.due("size, last cell, free", rig.list(0, 1) + " " + rig.cell(2 + one[1]) + " " + rig.free(),
                    one[0] + " 65535 " + (61 - one[1]));
        }
    }

    private static void sizeNeedsNone() {
        Rig.sentence("or without any the first cluster becomes 0 (a write; a FIX;");
        for (int size : new int[] {1, 32, 33}) {
            Rig rig = withFile(size);
            int clusters = (size + 31) / 32;
            rig.pokePair(8, 10, 0);
            rig.dueFixes("of " + size, 1 + clusters, 1 + 2 * clusters);
            Rig.due("no cluster", rig.list(0, 2) + " " + rig.list(0, 1) + " " + rig.free(), "0 0 61");
        }
    }

    private static void restIsNotUsed() {
        Rig.sentence("the rest is not USED)");
        for (int first : new int[] {4, 5}) {
            Rig rig = withFile(96);
            rig.file("G");
            rig.pokePair(8, 10, 32);
            rig.pokePair(8, 16 + 8, first);
            rig.pokePair(8, 16 + 10, first == 4 ? 64 : 32);
            int lost = first == 4 ? 0 : 1;
            rig.dueFixes("G has it from " + first, 1 + lost, 2 + 2 * lost);
            Rig.due("both stay", rig.list(0, 1) + " " + rig.list(1, 2), "32 " + first);
        }
        Rig none = withFile(64);
        none.file("G");
        none.pokePair(8, 10, 0);
        none.pokePair(8, 16 + 8, 3);
        none.pokePair(8, 16 + 10, 64);
        none.dueFixes("G has the whole chain", 1, 1);
        Rig.due("both stay", none.list(0, 2) + " " + none.list(1, 2) + " " + none.free(), "0 3 59");
    }

    private static void sizeNeedsMore() {
        Rig.sentence("if it needs more, the size becomes 32 times the clusters (a FIX; a write).");
        for (int size : new int[] {65, 96, 97, 320, 1024, 65535}) {
            Rig rig = withFile(40);
            rig.pokePair(8, 10, size);
            rig.dueFixes("size " + size, 1, 1);
            Rig.due("size", rig.list(0, 1), 64);
        }
        for (int size : new int[] {1, 65535}) {
            Rig rig = withFile(0);
            rig.pokePair(8, 10, size);
            rig.dueFixes("no cluster, size " + size, 1, 1);
            Rig.due("size", rig.list(0, 1) + " " + rig.list(0, 2), "0 0");
        }
        Rig great = new Rig();
        great.occupyFrom(3);
        great.pokePair(8, 10, 65535);
        great.dueFixes("61 clusters", 1, 1);
        Rig.due("size", great.list(0, 1), 61 * 32);
    }

    private static void sizeOfADirectory() {
        Rig.sentence("of a file: if the size needs fewer clusters");
        Rig rig = new Rig();
        rig.directory("D");
        rig.enter("D");
        for (int i = 0; i < 3; i++) {
            rig.file("F" + i);
        }
        rig.volume.poke(60, 0, 1);
        rig.dueFixes("a directory of two clusters and size 0", 0, 0);
        rig.enter("D");
        Rig.due("all stay", rig.shortName(2), "F2");
    }

    private static void lostCells() {
        Rig.sentence("Each cell, from 2 on, that is not 0 and not USED is SET to 0 (a FIX).");
        for (int cell : new int[] {3, 15, 16, 63}) {
            for (int value : new int[] {2, 3, 63, 65535}) {
                Rig rig = new Rig();
                rig.pokeBothCells(cell, value);
                rig.dueFixes("cell " + cell + " of " + value, 1, 2);
                Rig.due("cells", rig.cell(cell) + " " + rig.secondCell(cell), "0 0");
            }
        }
        Rig all = new Rig();
        for (int cell = 3; cell < 64; cell++) {
            all.volume.poke(cell / 16, cell % 16 * 2, 63);
            all.volume.poke(4 + cell / 16, cell % 16 * 2, 63);
        }
        all.dueFixes("all of them", 61, 122);
        Rig.due("cells 0 to 2 stay", all.cell(0) + " " + all.cell(1) + " " + all.cell(2), "65535 65535 65535");
    }

    private static void lostCellsFromTwoOn() {
        Rig.sentence("3. Each cell, from 2 on");
        for (int k = 0; k < 4; k++) {
            Rig rig = new Rig();
            rig.pokeBothCells(3, 65535);
            rig.pokeBothCells(63, 3);
            rig.volume.cut(k);
            Rig.due("cut", rig.repair(), Rig.STATE);
            Rig.due("cell 3 after " + k, rig.cell(3) + " " + rig.secondCell(3), (k > 0 ? 0 : 65535) + " " + (k > 1 ? 0 : 65535));
            Rig.due("cell 63 after " + k, rig.cell(63) + " " + rig.secondCell(63), (k > 2 ? 0 : 3) + " 3");
        }
    }

    private static void sixthDirectory() {
        Rig.sentence("(Five directories can lie inside one another, the ROOT is the first; the entry of a sixth one is FREED likewise.)");
        Rig rig = new Rig();
        for (int depth = 1; depth < 5; depth++) {
            rig.directory("D");
            rig.enter("D");
        }
        rig.fileOf("fourteen.chars", 32);
        int sector = rig.cell(rig.look(3)) + 6;
        rig.volume.poke(60, 0, 1);
        rig.dueFixes("five, and a file in the fifth", 0, 0);
        rig.volume.poke(sector, 6, 2);
        rig.dueFixes("a sixth one, with its parts, and its cluster", 2, 3 + 2);
        Rig.due("freed", rig.octet(sector, 0), 229);
        Rig.due("the fifth stays", rig.enter("D") + rig.enter("D") + rig.enter("D") + rig.enter("D"), Rig.DONE.repeat(4));
        Rig.due("it is empty", rig.list(0, 0), Rig.NO_SUCH);
    }

    private static void whatARepairEnds() {
        Rig.sentence("REPAIRS the disk; handles are not open any more, HERE is the ROOT: how many FIXES.");
        Rig rig = new Rig();
        rig.directory("D");
        rig.enter("D");
        rig.fileOf("F", 3);
        for (int handle = 0; handle < 4; handle++) {
            rig.open("F");
        }
        rig.type("AB");
        Rig.due("nothing to fix", rig.repair(), 0);
        Rig.due("handles", rig.look(10) + rig.look(11) + rig.look(12) + rig.look(13), -4);
        Rig.due("HERE", rig.look(3) + " " + rig.shortName(0), "2 D");
        Rig.due("power, line", rig.look(0) + " " + rig.look(4), "1 2");
    }

    private static void repairWithoutPower() {
        Rig.sentence("So does every call that lists it until the power is switched on");
        Rig rig = withFile(32);
        rig.pokeBothCells(40, 65535);
        rig.volume.cut(0);
        Rig.due("cut", rig.repair(), Rig.STATE);
        Rig.due("no power", rig.repair() + rig.cell(40), Rig.STATE + 65535);
        rig.volume.power();
        rig.dueFixes("power", 1, 2);
    }

    private static void soundDisk() {
        Rig.sentence("how many FIXES.");
        Rig rig = withFile(33);
        rig.directory("a.directory.of.two.parts");
        rig.enter("a.directory.of.two.parts");
        rig.fileOf("another.file", 64);
        Rig.due("none", rig.repair(), 0);
        int writes = rig.writes();
        rig.volume.cut(0);
        Rig.due("no write, so no cut", rig.repair() + " " + rig.look(0) + " " + (rig.writes() - writes), "0 1 0");
    }
}
