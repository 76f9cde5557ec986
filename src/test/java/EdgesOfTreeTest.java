/** The edges of CREATE, DELETE and enter() (promises 3 to 5), a test for each sentence. */
public final class EdgesOfTreeTest {
    public static void main(String[] args) {
        directoryTakesItsClusterFirst();
        firstRow();
        rowsThatAreTooShort();
        asLongAsThereIsNone();
        entriesOneAfterTheOther();
        noRoomInBetween();
        noRoomForTheSecondCluster();
        fullDiskWithAFreeEntry();
        lineIsEmptyThen();
        lineStaysWithoutPowerOrSuspect();
        otherKinds();
        argumentsComeFirst();
        calledSoHere();
        fifthDirectory();
        fileThatIsOpen();
        directoryWithEntries();
        directoryOfSeveralClusters();
        deleteWithoutCluster();
        deleteOneWriteEach();
        deletedNothing();
        enterTheRoot();
        enterNoDirectory();
        Rig.end();
    }

    private static void directoryTakesItsClusterFirst() {
        Rig.sentence("CREATE: a directory takes a cluster; then the first row .. is looked for HERE");
        Rig rig = new Rig();
        rig.file("A");
        rig.file("B");
        rig.directory("D");
        Rig.due("its cluster, then that of HERE", rig.list(2, 2) + " " + rig.cell(2), "3 4");
        rig.enter("D");
        Rig.due("it is empty", rig.list(0, 0), Rig.NO_SUCH);
    }

    private static void firstRow() {
        Rig.sentence("the first row of as many FREE entries as are needed (parts, and itself), one behind the other");
        Rig rig = new Rig();
        for (String name : new String[] {"A", "B", "C", "D", "E", "F", "G", "H"}) {
            rig.file(name);
        }
        for (String name : new String[] {"A", "B", "E", "F", "G"}) {
            rig.delete(name);
        }
        rig.file("Z");
        Rig.due("one entry: the first", rig.octet(8, 0), (int) 'Z');
        rig.delete("Z");
        rig.file("z");
        Rig.due("two entries: the first two", rig.octet(8, 0) + " " + rig.octet(8, 16), "65 90");
        rig.delete("z");
        rig.file("fourteen.chars");
        Rig.due("three entries: the first three", rig.octet(10, 0) + " " + rig.octet(10, 16) + " " + rig.octet(11, 0), "66 1 70");
        Rig.due("no cluster taken", rig.free(), 58);
    }

    private static void rowsThatAreTooShort() {
        Rig.sentence("as many FREE entries as are needed .. one behind the other");
        Rig rig = new Rig();
        for (String name : new String[] {"A", "B", "C", "D"}) {
            rig.file(name);
        }
        rig.delete("A");
        rig.delete("C");
        rig.file("z");
        Rig.due("two single ones are no row", rig.octet(8, 0) + " " + rig.octet(9, 0), "229 229");
        Rig.due("so HERE grows", rig.octet(10, 0) + " " + rig.octet(10, 16) + " " + rig.free(), "65 90 59");
        rig.delete("B");
        rig.file("y");
        Rig.due("over a used one's place", rig.octet(8, 0) + " " + rig.octet(8, 16), "65 89");
    }

    private static void asLongAsThereIsNone() {
        Rig.sentence("as long as there is none, a cluster is taken and linked behind HERE's last one.");
        int[][] cases = {{1, 1, 0}, {2, 1, 1}, {1, 2, 1}, {2, 2, 1}, {0, 3, 1}, {1, 3, 1}, {2, 3, 2}};
        String[] names = {"", "Z", "z", "fourteen.chars"};
        for (int[] one : cases) {
            Rig rig = new Rig();
            for (int i = 0; i < one[0]; i++) {
                rig.file("A" + i);
            }
            Rig.due("create", rig.file(names[one[1]]), Rig.DONE);
            Rig.due(one[1] + " entries behind " + one[0], 61 - rig.free(), one[2]);
            Rig.due("writes", rig.writes(), one[0] + 5 * one[2] + one[1]);
            Rig.due("where", rig.octet(8 + (one[0] + one[1] - 1) / 2, (one[0] + one[1] - 1) % 2 * 16 + 6), 1);
        }
    }

    private static void entriesOneAfterTheOther() {
        Rig.sentence("Then the entries are written, one after the other.");
        for (int k = 0; k < 4; k++) {
            Rig rig = new Rig();
            rig.file("A");
            rig.volume.cut(5 + k);
            Rig.due("create", rig.file("fourteen.chars"), k < 3 ? Rig.STATE : Rig.DONE);
            Rig.due("after " + k, rig.octet(8, 16) + " " + rig.octet(9, 0) + " " + rig.octet(9, 16),
                    (k > 0 ? 66 : 0) + " " + (k > 1 ? 1 : 0) + " " + (k > 2 ? 70 : 0));
        }
    }

    private static void noRoomInBetween() {
        Rig.sentence("(If there is NO ROOM in between, what was taken stays.)");
        Rig rig = new Rig();
        rig.file("A");
        rig.occupyFrom(3, 9);
        Rig.due("HERE is full, a cluster is free", rig.directory("D"), Rig.UNSUPPORTED);
        Rig.due("it was taken for the directory", rig.free() + " " + rig.cell(9) + " " + rig.cell(2), "0 65535 65535");
        Rig.due("line", rig.look(4), 0);
        Rig.due("no entry", rig.list(2, 0), Rig.NO_SUCH);
        Rig.due("lost", rig.repair() + " " + rig.free(), "1 1");
    }

    private static void noRoomForTheSecondCluster() {
        Rig.sentence("(If there is NO ROOM in between, what was taken stays.)");
        Rig rig = new Rig();
        rig.file("A");
        rig.occupyFrom(3, 9);
        Rig.due("three entries need two clusters", rig.file("fourteen.chars"), Rig.UNSUPPORTED);
        Rig.due("one was taken and linked", rig.free() + " " + rig.cell(2) + " " + rig.cell(9), "0 9 65535");
        Rig.due("no entry", rig.octet(15, 0) + " " + rig.octet(15, 16) + " " + rig.look(4), "0 0 0");
        Rig.due("not lost", rig.repair(), 0);
        Rig.due("two entries fit", rig.file("two") + " " + rig.longName(2), "done two");
    }

    private static void fullDiskWithAFreeEntry() {
        Rig.sentence("UnsupportedOperationException: .. NO ROOM");
        Rig rig = new Rig();
        rig.occupyFrom(3);
        int writes = rig.writes();
        Rig.due("a directory has no cluster", rig.directory("D"), Rig.UNSUPPORTED);
        Rig.due("two entries have no row", rig.file("f"), Rig.UNSUPPORTED);
        Rig.due("nothing written", rig.writes() - writes, 0);
        Rig.due("a file in the FREE entry", rig.file("F"), Rig.DONE);
        Rig.due("no more", rig.file("G"), Rig.UNSUPPORTED);
        rig.delete("F");
        Rig.due("but again", rig.file("G"), Rig.DONE);
    }

    private static void lineIsEmptyThen() {
        Rig.sentence("called like the line, which is empty then in any case");
        Rig rig = new Rig();
        rig.directory("D");
        rig.file("F");
        rig.open("F");
        String[] answers = {
            rig.file("A") + rig.look(4), rig.file("A") + rig.look(4), rig.file(".A") + rig.look(4),
            rig.create("B", 3) + rig.look(4), rig.delete("B") + rig.look(4), rig.delete("F") + rig.look(4),
            rig.delete("A") + rig.look(4), rig.enter("X") + rig.look(4), rig.enter("F") + rig.look(4),
            rig.open("X") + rig.look(4), rig.open("D") + rig.look(4), rig.open("F") + rig.look(4),
            rig.enter("D") + rig.look(4)};
        String[] want = {Rig.DONE, Rig.UNSUPPORTED, Rig.ARGUMENT, Rig.ARGUMENT, Rig.NO_SUCH, Rig.UNSUPPORTED,
            Rig.DONE, Rig.NO_SUCH, Rig.NO_SUCH, Rig.NO_SUCH, Rig.NO_SUCH, "1", Rig.DONE};
        for (int i = 0; i < want.length; i++) {
            Rig.due("call " + i, answers[i], want[i] + 0);
        }
        rig.enter("");
        rig.open("F");
        rig.open("F");
        Rig.due("all open", rig.open("F") + rig.look(4), Rig.UNSUPPORTED + 0);
    }

    private static void lineStaysWithoutPowerOrSuspect() {
        Rig.sentence("which is empty then in any case but without power or SUSPECT.");
        Rig suspect = new Rig();
        suspect.volume.poke(60, 0, 1);
        Rig off = new Rig();
        off.volume.cut(0);
        off.file("A");
        for (Rig rig : new Rig[] {suspect, off}) {
            Rig.due("create", rig.file("A") + rig.look(4), Rig.STATE + 1);
            Rig.due("delete", rig.delete("B") + rig.look(4), Rig.STATE + 2);
            Rig.due("enter", rig.enter("C") + rig.look(4), Rig.STATE + 3);
            Rig.due("open", rig.open("D") + rig.look(4), Rig.STATE + 4);
        }
        suspect.repair();
        off.volume.power();
        for (Rig rig : new Rig[] {suspect, off}) {
            Rig.due("then", rig.file("") + rig.shortName(0), Rig.DONE + "ABCD");
        }
    }

    private static void otherKinds() {
        Rig.sentence("IllegalArgumentException: the line is no GOOD name, or another kind");
        for (int kind : new int[] {Integer.MIN_VALUE, -1, 0, 3, 15, 257, 258, Integer.MAX_VALUE}) {
            Rig rig = new Rig();
            Rig.due("kind " + kind, rig.create("A", kind), Rig.ARGUMENT);
            Rig.due("nothing made", rig.writes() + " " + rig.free() + " " + rig.look(4), "0 61 0");
        }
    }

    private static void argumentsComeFirst() {
        Rig.sentence("IllegalArgumentException: ..; else UnsupportedOperationException");
        Rig rig = new Rig();
        rig.occupyFrom(3);
        Rig.due("kind, and called so", rig.create("X", 3), Rig.ARGUMENT);
        Rig.due("kind, and NO ROOM", rig.create("y", 0), Rig.ARGUMENT);
        Rig.due("name, and NO ROOM", rig.directory(".y"), Rig.ARGUMENT);
        Rig deep = fiveDeep();
        Rig.due("name, in the fifth one", deep.directory(""), Rig.ARGUMENT);
        Rig.due("kind, in the fifth one", deep.create("A", 3), Rig.ARGUMENT);
    }

    private static void calledSoHere() {
        Rig.sentence("else UnsupportedOperationException: an entry HERE is called so");
        Rig rig = new Rig();
        rig.file("A");
        rig.directory("D");
        for (int kind = 1; kind <= 2; kind++) {
            Rig.due("a file", rig.create("A", kind) + rig.create("a", kind), Rig.UNSUPPORTED.repeat(2));
            Rig.due("a directory", rig.create("D", kind) + rig.create("d", kind), Rig.UNSUPPORTED.repeat(2));
        }
        Rig.due("no cluster was taken", rig.free() + " " + rig.writes(), "60 5");
        rig.enter("D");
        Rig.due("not HERE", rig.file("A") + rig.directory("D"), Rig.DONE.repeat(2));
        rig.enter("");
        rig.delete("A");
        Rig.due("not any more", rig.file("A"), Rig.DONE);
    }

    private static Rig fiveDeep() {
        Rig rig = new Rig();
        for (int depth = 1; depth < 5; depth++) {
            Rig.due("directory in " + depth, rig.directory("D") + rig.enter("D"), Rig.DONE.repeat(2));
        }
        return rig;
    }

    private static void fifthDirectory() {
        Rig.sentence("or, for a directory, HERE is the fifth one inside one another.");
        Rig rig = fiveDeep();
        int writes = rig.writes();
        Rig.due("a directory", rig.directory("E"), Rig.UNSUPPORTED);
        Rig.due("nothing taken", rig.free() + " " + (rig.writes() - writes), "57 0");
        Rig.due("a file", rig.file("E"), Rig.DONE);
        rig.enter("");
        Rig.due("in the first", rig.directory("E"), Rig.DONE);
        for (int depth = 2; depth < 5; depth++) {
            rig.enter("D");
            Rig.due("in directory " + depth, rig.directory("E"), Rig.DONE);
        }
        rig.enter("E");
        Rig.due("in another fifth one", rig.directory("E"), Rig.UNSUPPORTED);
        rig.repair();
        Rig.due("from the ROOT again", rig.enter("D") + rig.enter("D") + rig.enter("D"), Rig.DONE.repeat(3));
        Rig.due("in the fourth", rig.directory("F"), Rig.DONE);
        rig.enter("F");
        Rig.due("in the fifth", rig.directory("G"), Rig.UNSUPPORTED);
    }

    private static void fileThatIsOpen() {
        Rig.sentence("DELETE (a file that no handle has open");
        for (int handle = 0; handle < 4; handle++) {
            Rig rig = new Rig();
            rig.file("F");
            rig.file("G");
            for (int i = 0; i < 4; i++) {
                rig.open(i == handle ? "F" : "G");
            }
            int writes = rig.writes();
            Rig.due("open by " + handle, rig.delete("F"), Rig.UNSUPPORTED);
            Rig.due("nothing written", rig.writes() - writes, 0);
            rig.volume.close(handle);
            Rig.due("closed", rig.delete("F"), Rig.DONE);
            Rig.due("the others stay open", rig.look(10 + (handle + 1) % 4), 0);
        }
        Rig rig = new Rig();
        rig.file("F");
        rig.directory("D");
        rig.open("F");
        rig.enter("D");
        rig.file("F");
        Rig.due("another one called so", rig.delete("F"), Rig.DONE);
    }

    private static void directoryWithEntries() {
        Rig.sentence("or a directory without entries that are not FREE)");
        for (String name : new String[] {"F", "f", "fourteen.chars"}) {
            for (int kind = 1; kind <= 2; kind++) {
                Rig rig = new Rig();
                rig.directory("D");
                rig.enter("D");
                rig.create(name, kind);
                rig.enter("");
                int writes = rig.writes();
                Rig.due("with an entry", rig.delete("D"), Rig.UNSUPPORTED);
                Rig.due("nothing written", rig.writes() - writes, 0);
                rig.enter("D");
                rig.delete(name);
                rig.enter("");
                Rig.due("with FREE ones", rig.delete("D") + " " + rig.free(), "done 61");
            }
        }
        Rig part = new Rig();
        part.directory("D");
        part.enter("D");
        part.volume.cut(1);
        part.file("f");
        part.volume.power();
        Rig.due("a part is not FREE", part.delete("D"), Rig.UNSUPPORTED);
        part.repair();
        Rig.due("till it is freed", part.delete("D"), Rig.DONE);
    }

    private static void directoryOfSeveralClusters() {
        Rig.sentence("or a directory without entries that are not FREE)");
        Rig rig = new Rig();
        rig.directory("D");
        rig.enter("D");
        for (int i = 0; i < 6; i++) {
            rig.file("F" + i);
        }
        for (int i = 0; i < 5; i++) {
            rig.delete("F" + i);
        }
        rig.enter("");
        Rig.due("one in the last cluster", rig.delete("D"), Rig.UNSUPPORTED);
        rig.enter("D");
        rig.delete("F5");
        rig.enter("");
        int writes = rig.writes();
        Rig.due("none", rig.delete("D"), Rig.DONE);
        Rig.due("each cell of its chain", rig.writes() - writes + " " + rig.free(), "7 61");
    }

    private static void deleteWithoutCluster() {
        Rig.sentence("then each cell of its chain from the first on is SET to 0.");
        Rig rig = new Rig();
        rig.file("A");
        rig.file("b");
        Rig.due("no chain, no part", rig.delete("A") + " " + rig.writes(), "done 9");
        Rig.due("no chain, a part", rig.delete("b") + " " + rig.writes(), "done 11");
        Rig.due("cells", rig.cell(0) + " " + rig.cell(1) + " " + rig.cell(2), "65535 65535 3");
    }

    private static void deleteOneWriteEach() {
        Rig.sentence("byte 0 of the parts .. and then its own becomes 229, one write each; then each cell of its chain");
        for (int k = 0; k <= 6; k++) {
            Rig rig = new Rig();
            rig.file("f");
            rig.open("f");
            rig.append(0, 33);
            rig.volume.close(0);
            rig.volume.cut(k);
            Rig.due("delete", rig.delete("f"), k < 6 ? Rig.STATE : Rig.DONE);
            Rig.due("marks after " + k, rig.octet(8, 0) + " " + rig.octet(8, 16),
                    (k > 0 ? 229 : 65) + " " + (k > 1 ? 229 : 70));
            Rig.due("first cells after " + k, rig.cell(3) + " " + rig.secondCell(3),
                    (k > 2 ? 0 : 4) + " " + (k > 3 ? 0 : 4));
            Rig.due("second cells after " + k, rig.cell(4) + " " + rig.secondCell(4),
                    (k > 4 ? 0 : 65535) + " " + (k > 5 ? 0 : 65535));
            Rig.due("other bytes stay", rig.octet(8, 17) + " " + rig.octet(8, 26) + " " + rig.octet(9, 5), "126 33 5");
        }
    }

    private static void deletedNothing() {
        Rig.sentence("NoSuchElementException: there is none");
        Rig rig = new Rig();
        Rig.due("an empty ROOT", rig.delete("A") + rig.delete("") + rig.delete("."), Rig.NO_SUCH.repeat(3));
        rig.file("A");
        rig.directory("D");
        rig.enter("D");
        Rig.due("not HERE", rig.delete("A") + rig.delete("D"), Rig.NO_SUCH.repeat(2));
        rig.enter("");
        Rig.due("once", rig.delete("A") + rig.delete("A"), Rig.DONE + Rig.NO_SUCH);
    }

    private static void enterTheRoot() {
        Rig.sentence("with an empty line the ROOT.");
        Rig rig = fiveDeep();
        Rig.due("HERE", rig.look(3), 6);
        Rig.due("from the fifth", rig.enter("") + rig.look(3), Rig.DONE + 2);
        Rig.due("from the ROOT", rig.enter("") + rig.look(3), Rig.DONE + 2);
        rig.enter("D");
        Rig.due("from the second", rig.look(3) + rig.enter("") + rig.look(3), 3 + Rig.DONE + 2);
        Rig.due("the depth is that of the ROOT", rig.directory("E") + rig.enter("E") + rig.directory("E") + rig.enter("E")
                + rig.directory("E") + rig.enter("E") + rig.directory("E") + rig.enter("E"), Rig.DONE.repeat(8));
        Rig.due("and a sixth one is too deep", rig.directory("E"), Rig.UNSUPPORTED);
    }

    private static void enterNoDirectory() {
        Rig.sentence("NoSuchElementException: there is no such directory HERE.");
        Rig rig = new Rig();
        rig.directory("D");
        rig.file("F");
        rig.enter("D");
        Rig.due("of the ROOT", rig.enter("D") + rig.look(3), Rig.NO_SUCH + 3);
        Rig.due("points", rig.enter(".") + rig.enter(".."), Rig.NO_SUCH.repeat(2));
        rig.enter("");
        Rig.due("a file", rig.enter("F") + rig.look(3), Rig.NO_SUCH + 2);
        rig.delete("D");
        Rig.due("deleted", rig.enter("D"), Rig.NO_SUCH);
    }
}
