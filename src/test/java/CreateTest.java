/** Promise 3. */
public final class CreateTest {
    public static void main(String[] args) {
        shortNames();
        longNames();
        generatedNames();
        entriesOnDisk();
        wrongInputs();
        sameNames();
        ninthShortName();
        rowsOfFreeEntries();
        directories();
        deepDirectories();
        noRoomForDirectory();
        noRoomInBetween();
        lineStaysWithoutPower();
        Rig.end();
    }

    private static void shortNames() {
        Rig rig = new Rig();
        Rig.due("six", rig.file("ABC019"), Rig.DONE);
        Rig.due("one write", rig.writes(), 1);
        Rig.due("line", rig.look(4), 0);
        Rig.due("one", rig.file("Z"), Rig.DONE);
        Rig.due("short", rig.shortName(0) + " " + rig.shortName(1), "ABC019 Z");
        Rig.due("no long one", rig.list(0, 3) + rig.list(1, 3), "00");
        Rig.due("seven are a long name", rig.file("ABCDEFG"), Rig.DONE);
        Rig.due("its short", rig.shortName(2), "ABCD~1");
        Rig.due("its long", rig.longName(2), "ABCDEFG");
    }

    private static void longNames() {
        String all = "abcdefghijklmnopqrstuvwxyz";
        for (int length = 1; length <= 26; length++) {
            Rig rig = new Rig();
            String name = all.substring(0, length);
            Rig.due("create", rig.file(name), Rig.DONE);
            Rig.due("long name", rig.longName(0), name);
            Rig.due("length", rig.list(0, 3), length);
            int parts = length > 13 ? 2 : 1;
            int writes = parts + 1 + (parts == 2 ? 5 : 0);
            Rig.due("writes of " + length, rig.writes(), writes);
            Rig.due("found", rig.open(name), 0);
        }
    }

    private static void generatedNames() {
        Rig rig = new Rig();
        String[][] cases = {
            {"b", "B~1"}, {"B!", "B~2"}, {"a_rather_long", "ARAT~1"}, {"a-rat", "ARAT~2"},
            {"notes.txt", "NOTE~1"}, {"!!!", "~1"}, {"~~~~~~~", "~2"}, {"x1y2z3q", "X1Y2~1"},
            {"NOTE~1x", "NOTE~2"}, {"long~2", "LONG~1"}, {"longname", "LONG~2"}};
        for (int i = 0; i < cases.length; i++) {
            Rig.due(cases[i][0], rig.file(cases[i][0]), Rig.DONE);
            Rig.due(cases[i][0], rig.shortName(i), cases[i][1]);
        }
        Rig.due("called by a short name", rig.file("note~1"), Rig.UNSUPPORTED);
        rig.delete("B~1");
        rig.file("b...");
        Rig.due("the least digit again", rig.shortName(0), "B~1");
    }

    private static void entriesOnDisk() {
        Rig rig = new Rig();
        rig.directory("D");
        Rig.due("directory", rig.entry(8, 0), "68 32 32 32 32 32 2 0 3 0 0 0 0 0 0 0");
        rig.delete("D");
        rig.file("fourteen.chars");
        // FOUR~1 is 70 79 85 82 126 49, with the sums 70 219 12 106 82 213 on the way.
        Rig.due("part 2", rig.entry(8, 0), "66 115 0 0 0 0 15 213 0 0 0 0 0 0 0 0");
        Rig.due("part 1", rig.entry(8, 1), "1 102 111 117 114 116 15 213 101 101 110 46 99 104 97 114");
        Rig.due("file", rig.entry(9, 0), "70 79 85 82 126 49 1 0 0 0 0 0 0 0 0 0");
        Rig.due("behind it", rig.entry(9, 1), "0 0 0 0 0 0 0 0 0 0 0 0 0 0 0 0");
        rig.file("a?");
        Rig.due("0 behind a shorter name", rig.longName(1), "a?");
        Rig.due("in its part", rig.entry(9, 1).substring(0, 24), "65 97 63 0 0 0 15 106 0 ");
        Rig one = new Rig();
        one.file("a");
        // A~1 filled up with 32: 65 0 49 130 37 106.
        Rig.due("only part", one.entry(8, 0), "65 97 0 0 0 0 15 106 0 0 0 0 0 0 0 0");
    }

    private static void wrongInputs() {
        for (int kind : new int[] {Integer.MIN_VALUE, -1, 0, 3, 15, Integer.MAX_VALUE}) {
            Rig rig = new Rig();
            Rig.due("kind " + kind, rig.create("A", kind), Rig.ARGUMENT);
            Rig.due("line", rig.look(4), 0);
            Rig.due("no entry", rig.list(0, 0), Rig.NO_SUCH);
        }
        Rig rig = new Rig();
        Rig.due("no name", rig.file(""), Rig.ARGUMENT);
        Rig.due("a point", rig.file("."), Rig.ARGUMENT);
        Rig.due("a point first", rig.directory(".x"), Rig.ARGUMENT);
        Rig.due("line", rig.look(4), 0);
        Rig.due("writes", rig.writes(), 0);
        Rig.due("a point behind", rig.file("x."), Rig.DONE);
        Rig.due("wrong kind and name there", rig.create("x.", 0), Rig.ARGUMENT);
    }

    private static void sameNames() {
        Rig rig = new Rig();
        rig.file("README");
        rig.directory("Some.Thing");
        rig.file("AZaz@[`{");
        Rig.due("not letters", rig.file("AZAZ`{@["), Rig.DONE);
        int writes = rig.writes();
        for (String name : new String[] {"README", "readme", "some.thing", "SOME.THING", "azAZ@[`{", "AZaz@[`{", "SOME~1", "some~1"}) {
            Rig.due(name, rig.file(name), Rig.UNSUPPORTED);
            Rig.due(name, rig.directory(name), Rig.UNSUPPORTED);
            Rig.due("line", rig.look(4), 0);
        }
        Rig.due("writes", rig.writes(), writes);
        rig.enter("some.thing");
        Rig.due("elsewhere", rig.file("README"), Rig.DONE);
    }

    private static void ninthShortName() {
        Rig rig = new Rig();
        for (int i = 1; i <= 9; i++) {
            Rig.due("long " + i, rig.file("long_" + i), Rig.DONE);
        }
        int writes = rig.writes();
        Rig.due("tenth file", rig.file("long_x"), Rig.UNSUPPORTED);
        Rig.due("nothing written", rig.writes() - writes, 0);
        Rig.due("tenth directory", rig.directory("long_x"), Rig.UNSUPPORTED);
        rig.delete("long_5");
        Rig.due("room again", rig.file("long_x"), Rig.DONE);
        Rig.due("the digit", rig.shortName(4), "LONG~5");
    }

    private static void rowsOfFreeEntries() {
        Rig rig = new Rig();
        for (String name : new String[] {"A", "B", "C", "D", "E", "F"}) {
            rig.file(name);
        }
        rig.delete("B");
        rig.delete("D");
        rig.delete("E");
        rig.file("two");
        Rig.due("over the end of a cluster", rig.octet(rig.cell(2) + 6, 22) + " "
                + rig.octet(rig.cell(rig.cell(2)) + 6, 0), "15 84");
        rig.file("G");
        Rig.due("the first free one", rig.octet(8, 16), (int) 'G');
        int free = rig.free();
        rig.file("a.name.of.two.parts");
        Rig.due("two clusters more", rig.free(), free - 2);
        rig.file("H");
        Rig.due("the one left", rig.free(), free - 2);
    }

    private static void directories() {
        Rig rig = new Rig();
        rig.volume.poke(20, 5, 77);
        rig.repair();
        rig.file("A");
        Rig.due("directory", rig.directory("dir"), Rig.DONE);
        Rig.due("takes its cluster first", rig.list(1, 2), 3);
        Rig.due("then HERE grows", rig.cell(2), 4);
        Rig.due("size", rig.list(1, 1), 0);
        Rig.due("kind", rig.list(1, 0), 2);
        Rig.due("writes", rig.writes(), 1 + 3 + 5 + 2);
        for (int i = 0; i < 9; i++) {
            rig.directory("D" + i);
        }
        Rig.due("a taken sector is made 0", rig.octet(20, 5), 0);
    }

    private static void deepDirectories() {
        Rig rig = new Rig();
        for (int depth = 1; depth < 5; depth++) {
            Rig.due("directory in " + depth, rig.directory("D"), Rig.DONE);
            Rig.due("enter", rig.enter("D"), Rig.DONE);
        }
        int writes = rig.writes();
        Rig.due("a sixth one", rig.directory("D"), Rig.UNSUPPORTED);
        Rig.due("line", rig.look(4), 0);
        Rig.due("writes", rig.writes(), writes);
        Rig.due("a file", rig.file("D"), Rig.DONE);
    }

    private static void noRoomForDirectory() {
        Rig rig = new Rig();
        rig.fillBut(0);
        int writes = rig.writes();
        Rig.due("directory", rig.directory("D"), Rig.UNSUPPORTED);
        Rig.due("file", rig.file("F"), Rig.UNSUPPORTED);
        Rig.due("line", rig.look(4), 0);
        Rig.due("nothing written", rig.writes() - writes, 0);
    }

    private static void noRoomInBetween() {
        Rig rig = new Rig();
        rig.fillBut(1);
        Rig.due("directory", rig.directory("D"), Rig.UNSUPPORTED);
        Rig.due("what was taken stays", rig.free(), 0);
        Rig.due("lost", rig.repair(), 1);
        Rig.due("free again", rig.free(), 1);
        Rig.due("three entries", rig.file("fourteen_chars"), Rig.UNSUPPORTED);
        Rig.due("a cluster was linked", rig.free(), 0);
        Rig.due("nothing lost", rig.repair(), 0);
        Rig.due("two entries", rig.file("f"), Rig.DONE);
    }

    private static void lineStaysWithoutPower() {
        Rig rig = new Rig();
        rig.volume.poke(60, 0, 1);
        Rig.due("suspect", rig.file("AB"), Rig.STATE);
        Rig.due("wrong kind, but suspect", rig.create("C", 9), Rig.STATE);
        Rig.due("line", rig.look(4), 3);
        rig.repair();
        Rig.due("then", rig.file(""), Rig.DONE);
        Rig.due("name", rig.shortName(0), "ABC");
    }
}
