/** The edges that the first two paragraphs of the document's terms name, a test for each sentence. */
public final class EdgesOfDiskTest {
    public static void main(String[] args) {
        sectors();
        numbersOfTwoBytes();
        cellsOfATableSector();
        clustersAndSectors();
        nextAndLast();
        cellsZeroAndOne();
        firstTableIsRead();
        oneSectorAtOnce();
        setInBothTables();
        leastFreeCluster();
        noRoom();
        takenSectorIsZero();
        linked();
        fiveHundredTwelveCalls();
        Rig.end();
    }

    private static void sectors() {
        Rig.sentence("THE DISK has 70 SECTORS of 32 bytes.");
        Rig rig = new Rig();
        Rig.due("first byte", rig.octet(0, 0), 255);
        Rig.due("last byte", rig.octet(69, 31), 0);
        Rig.due("sector 70", rig.octet(70, 0), -1);
        Rig.due("sector -1", rig.octet(-1, 0), -1);
        Rig.due("byte 32", rig.octet(69, 32), -1);
        Rig.due("byte -1", rig.octet(0, -1), -1);
        Rig.due("poke the last", rig.volume.poke(69, 31, 1), true);
        Rig.due("poke the first", rig.volume.poke(0, 0, 1), true);
        Rig.due("poke sector 70", rig.volume.poke(70, 0, 1), false);
        Rig.due("poke byte 32", rig.volume.poke(0, 32, 1), false);
    }

    private static void numbersOfTwoBytes() {
        Rig.sentence("Numbers of two bytes have the lowest first.");
        Rig rig = new Rig();
        rig.file("F");
        rig.open("F");
        rig.append(0, 255);
        Rig.due("255", rig.octet(8, 10) + " " + rig.octet(8, 11), "255 0");
        rig.append(0, 1);
        Rig.due("256", rig.octet(8, 10) + " " + rig.octet(8, 11), "0 1");
        Rig.due("size", rig.list(0, 1), 256);
        Rig.due("first cluster", rig.octet(8, 8) + " " + rig.octet(8, 9), "3 0");
        Rig.due("next cluster", rig.octet(0, 6) + " " + rig.octet(0, 7), "4 0");
        rig.append(0, 2);
        Rig.due("258", rig.octet(8, 10) + " " + rig.octet(8, 11) + " " + rig.list(0, 1), "2 1 258");
    }

    private static void cellsOfATableSector() {
        Rig.sentence("THE TABLE has 64 cells of two bytes, 16 a sector: sectors 0 .. 3, and once more 4 .. 7.");
        int[][] places = {{15, 0, 30}, {16, 1, 0}, {31, 1, 30}, {32, 2, 0}, {47, 2, 30}, {48, 3, 0}, {63, 3, 30}};
        for (int[] place : places) {
            Rig rig = new Rig();
            rig.file("A");
            rig.occupyFrom(3, place[0]);
            Rig.due("free", rig.octet(place[1], place[2]) + " " + rig.octet(4 + place[1], place[2]), "0 0");
            rig.open("A");
            Rig.due("write", rig.write(0, 1, 1), 1);
            Rig.due("cell " + place[0], rig.octet(place[1], place[2]) + " " + rig.octet(place[1], place[2] + 1), "255 255");
            Rig.due("once more", rig.octet(4 + place[1], place[2]) + " " + rig.octet(4 + place[1], place[2] + 1), "255 255");
            Rig.due("first cluster", rig.list(0, 2), place[0]);
        }
    }

    private static void clustersAndSectors() {
        Rig.sentence("CLUSTER c (2 .. 63) is the sector c + 6");
        Rig rig = new Rig();
        rig.file("A");
        Rig.due("cluster 2", rig.octet(8, 0), (int) 'A');
        rig.occupyFrom(3, 3, 63);
        rig.open("A");
        rig.write(0, 77, 1);
        Rig.due("cluster 3", rig.octet(9, 0), 77);
        rig.append(0, 31);
        Rig.due("still in cluster 3", rig.octet(9, 31), 31);
        rig.write(0, 78, 1);
        Rig.due("cluster 63", rig.octet(69, 0), 78);
        rig.append(0, 31);
        Rig.due("its end", rig.octet(69, 31), 63);
    }

    private static void nextAndLast() {
        Rig.sentence("its cell: 0 free, 2 .. 63 the next one of its chain, 65535 the last one.");
        Rig rig = new Rig();
        rig.file("A");
        rig.occupyFrom(3, 3, 63);
        rig.open("A");
        rig.append(0, 32);
        Rig.due("the last one", rig.cell(3) + " " + rig.secondCell(3), "65535 65535");
        Rig.due("free", rig.cell(63) + " " + rig.free(), "0 1");
        rig.append(0, 1);
        Rig.due("the next one", rig.cell(3) + " " + rig.secondCell(3), "63 63");
        Rig.due("the last one", rig.cell(63) + " " + rig.secondCell(63), "65535 65535");
        rig.volume.seek(0, 32);
        Rig.due("read in the next one", rig.read(0, 7), (1L << 56) + 32);
    }

    private static void cellsZeroAndOne() {
        Rig.sentence("Cells 0 and 1 are 65535.");
        Rig rig = new Rig();
        Rig.due("new", rig.cell(0) + " " + rig.cell(1) + " " + rig.secondCell(0) + " " + rig.secondCell(1),
                "65535 65535 65535 65535");
        rig.pokeCell(0, 0);
        rig.pokeCell(1, 0);
        Rig.due("no clusters, even if 0", rig.free(), 61);
        Rig.due("repaired", rig.repair(), 2 + 2);
        Rig.due("again", rig.cell(0) + " " + rig.cell(1), "65535 65535");
    }

    private static void firstTableIsRead() {
        Rig.sentence("What is said of cells is read in the first table.");
        Rig rig = new Rig();
        rig.volume.cut(1);
        Rig.due("cut between the tables", rig.directory("D"), Rig.STATE);
        Rig.due("taken in the first alone", rig.cell(3) + " " + rig.secondCell(3) + " " + rig.free(), "65535 0 60");
        rig.volume.power();
        rig.directory("E");
        Rig.due("so the next one is taken", rig.list(0, 2), 4);
        Rig linked = new Rig();
        linked.file("F");
        linked.open("F");
        linked.append(0, 32);
        linked.volume.cut(4);
        Rig.due("cut when linked in the first table", linked.write(0, 1, 1), Rig.STATE);
        linked.volume.power();
        linked.open("F");
        linked.volume.seek(0, 32);
        int writes = linked.writes();
        Rig.due("write", linked.write(0, 1, 1), 1);
        Rig.due("the chain has the cluster", linked.writes() - writes + " " + linked.free(), "2 59");
    }

    private static void oneSectorAtOnce() {
        Rig.sentence("A WRITE changes bytes of one sector at once.");
        Rig rig = new Rig();
        rig.file("F");
        rig.open("F");
        rig.append(0, 64);
        int[][] cases = {{24, 8, 1}, {25, 8, 2}, {31, 1, 1}, {31, 2, 2}, {32, 8, 1}};
        for (int[] one : cases) {
            rig.volume.seek(0, one[0]);
            int writes = rig.writes();
            rig.write(0, -1, one[1]);
            Rig.due(one[1] + " bytes at " + one[0], rig.writes() - writes, one[2]);
        }
    }

    private static void setInBothTables() {
        Rig.sentence("To SET a cell: a write in the first table, then one in the second.");
        String[] want = {"0 0", "65535 0", "65535 65535"};
        for (int k = 0; k < 3; k++) {
            Rig rig = new Rig();
            rig.volume.cut(k);
            Rig.due("cut", rig.directory("D"), Rig.STATE);
            Rig.due("after " + k + " writes", rig.cell(3) + " " + rig.secondCell(3), want[k]);
        }
    }

    private static void leastFreeCluster() {
        Rig.sentence("To TAKE a cluster: the least one that is free");
        Rig rig = new Rig();
        rig.file("A");
        rig.occupyFrom(3, 7, 30, 62);
        rig.open("A");
        rig.append(0, 96);
        Rig.due("chain", rig.list(0, 2) + " " + rig.cell(7) + " " + rig.cell(30) + " " + rig.cell(62), "7 30 62 65535");
        rig.volume.close(0);
        rig.delete("A");
        rig.directory("D");
        Rig.due("the least again", rig.list(0, 2), 7);
    }

    private static void noRoom() {
        Rig.sentence("without one there is NO ROOM");
        Rig rig = new Rig();
        rig.file("A");
        rig.occupyFrom(3);
        rig.open("A");
        int writes = rig.writes();
        Rig.due("a file's first cluster", rig.write(0, 1, 1), Rig.UNSUPPORTED);
        Rig.due("a directory", rig.directory("D"), Rig.UNSUPPORTED);
        Rig.due("an entry", rig.file("F"), Rig.UNSUPPORTED);
        Rig.due("writes", rig.writes() - writes, 0);
        Rig one = new Rig();
        one.file("A");
        one.occupyFrom(3, 63);
        one.open("A");
        Rig.due("the last cluster is room", one.write(0, 1, 1), 1);
        Rig.due("then there is none", one.directory("D") + " " + one.free(), Rig.UNSUPPORTED + " 0");
    }

    private static void takenSectorIsZero() {
        Rig.sentence("its cell is SET to 65535, then a write makes its sector 0.");
        for (int k = 0; k < 32; k++) {
            Rig rig = new Rig();
            rig.volume.poke(9, k, 200 + k);
            rig.volume.poke(10, k, 200 + k);
            rig.repair();
            Rig.due("directory", rig.directory("D"), Rig.DONE);
            Rig.due("byte " + k, rig.octet(9, k), 0);
            Rig.due("of another sector", rig.octet(10, k), 200 + k);
            Rig.due("bytes of the ROOT", rig.octet(8, 0), (int) 'D');
        }
        Rig rig = new Rig();
        rig.volume.poke(9, 0, 5);
        rig.repair();
        rig.volume.cut(2);
        rig.directory("D");
        Rig.due("not yet", rig.octet(9, 0) + " " + rig.secondCell(3), "5 65535");
    }

    private static void linked() {
        Rig.sentence("To LINK: a cell is SET to the next cluster.");
        for (int k = 3; k < 6; k++) {
            Rig rig = new Rig();
            rig.file("A");
            rig.file("B");
            rig.volume.cut(k);
            Rig.due("cut", rig.file("C"), Rig.STATE);
            Rig.due("first table after " + k, rig.cell(2), k > 3 ? 3 : 65535);
            Rig.due("second table after " + k, rig.secondCell(2), k > 4 ? 3 : 65535);
        }
    }

    private static void fiveHundredTwelveCalls() {
        Rig.sentence("An object is used for at most 512 calls after it has been made");
        FileVolume volume = new FileVolume();
        volume.type('F');
        volume.create(1);
        volume.type('F');
        int handle = volume.open();
        int written = 0;
        for (int call = 5; call < 512; call++) {
            written += volume.write(handle, call, 1);
        }
        Rig.due("call 512", volume.look(10) + " of " + written, "507 of 507");
    }
}
