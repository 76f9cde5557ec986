/** The edges of a new object, list(), octet() and look() (promises 1, 11, 15, 17), a test for each sentence. */
public final class EdgesOfLookingTest {
    public static void main(String[] args) {
        newObject();
        newObjectsAreTheirOwn();
        listFirstAndLast();
        listKindSizeCluster();
        listLongLength();
        listShortCharacters();
        listLongCharacters();
        listNoneSuch();
        listAnotherWhat();
        octetNoneSuch();
        octetWithoutPower();
        lookAtThePower();
        lookAtTheWrites();
        lookAtTheFreeClusters();
        lookAtHere();
        lookAtTheLine();
        lookAtHandles();
        lookAtAnother();
        Rig.end();
    }

    private static void newObject() {
        Rig.sentence("A formatted disk: the ROOT with one cluster; the power on, an empty line.");
        Rig rig = new Rig();
        for (int cell = 0; cell < 64; cell++) {
            Rig.due("cells " + cell, rig.cell(cell) + " " + rig.secondCell(cell), cell < 3 ? "65535 65535" : "0 0");
        }
        Rig.due("look", rig.look(0) + " " + rig.look(1) + " " + rig.look(2) + " " + rig.look(3) + " " + rig.look(4), "1 0 61 2 0");
        Rig.due("handles", rig.look(10) + rig.look(11) + rig.look(12) + rig.look(13), -4);
        Rig.due("an empty ROOT", rig.list(0, 0) + " " + rig.octet(8, 0) + " " + rig.octet(8, 16), Rig.NO_SUCH + " 0 0");
        Rig.due("nothing to fix", rig.repair() + " " + rig.writes(), "0 0");
        Rig.due("no cut is set", new Rig().directory("D"), Rig.DONE);
    }

    private static void newObjectsAreTheirOwn() {
        Rig.sentence("A formatted disk");
        Rig one = new Rig();
        one.file("A");
        one.type("B");
        Rig two = new Rig();
        Rig.due("another object", two.list(0, 0) + " " + two.look(4) + " " + two.writes(), Rig.NO_SUCH + " 0 0");
        two.volume.poke(8, 0, 0);
        Rig.due("the first one", one.shortName(0), "A");
    }

    private static void listFirstAndLast() {
        Rig.sentence("Of the k-th file or directory HERE");
        Rig rig = new Rig();
        rig.directory("D");
        rig.file("fourteen.chars");
        rig.file("F");
        Rig.due("in the order of the entries", rig.shortName(0) + " " + rig.shortName(1) + " " + rig.shortName(2), "D FOUR~1 F");
        rig.delete("FOUR~1");
        Rig.due("without FREE ones", rig.shortName(0) + " " + rig.shortName(1) + rig.list(2, 0), "D F" + Rig.NO_SUCH);
        rig.file("G");
        Rig.due("in the place of a FREE one", rig.shortName(1) + " " + rig.shortName(2), "G F");
        rig.enter("D");
        Rig.due("HERE", rig.list(0, 0), Rig.NO_SUCH);
    }

    private static void listKindSizeCluster() {
        Rig.sentence("its kind (what = 0), its size (1), its first cluster (2)");
        Rig rig = new Rig();
        rig.file("E");
        rig.file("F");
        rig.directory("D");
        rig.open("F");
        rig.append(0, 260);
        Rig.due("an empty file", rig.list(0, 0) + " " + rig.list(0, 1) + " " + rig.list(0, 2), "1 0 0");
        Rig.due("a file", rig.list(1, 0) + " " + rig.list(1, 1) + " " + rig.list(1, 2), "1 260 5");
        Rig.due("a directory", rig.list(2, 0) + " " + rig.list(2, 1) + " " + rig.list(2, 2), "2 0 3");
    }

    private static void listLongLength() {
        Rig.sentence("how many characters its long name has (3)");
        for (int length : new int[] {1, 12, 13, 14, 25, 26}) {
            Rig rig = new Rig();
            rig.file("x".repeat(length));
            Rig.due("length " + length, rig.list(0, 3), length);
        }
        Rig rig = new Rig();
        rig.file("SHORT");
        Rig.due("no long name", rig.list(0, 3), 0);
    }

    private static void listShortCharacters() {
        Rig.sentence("and character 10 + i of its short name, .. (-1 behind the end)");
        Rig rig = new Rig();
        rig.file("A");
        rig.file("ABCDE");
        rig.file("ABCDEF");
        Rig.due("of one", rig.list(0, 10) + " " + rig.list(0, 11) + " " + rig.list(0, 15), "65 -1 -1");
        Rig.due("of five", rig.list(1, 10) + " " + rig.list(1, 14) + " " + rig.list(1, 15), "65 69 -1");
        Rig.due("of six", rig.list(2, 10) + " " + rig.list(2, 14) + " " + rig.list(2, 15), "65 69 70");
    }

    private static void listLongCharacters() {
        Rig.sentence("20 + i of its long name (-1 behind the end)");
        Rig rig = new Rig();
        String name = "abcdefghijklmnopqrstuvwxyz";
        for (int length : new int[] {1, 13, 14, 26}) {
            rig.file(name.substring(26 - length));
        }
        int k = 0;
        for (int length : new int[] {1, 13, 14, 26}) {
            Rig.due("the first of " + length, rig.list(k, 20), name.charAt(26 - length) + 0);
            Rig.due("the last", rig.list(k, 19 + length), (int) 'z');
            Rig.due("behind the end", length < 26 ? rig.list(k, 20 + length) : "-1", -1);
            Rig.due("45", rig.list(k, 45), length < 26 ? -1 : (int) 'z');
            k++;
        }
        rig.file("SHORT");
        Rig.due("no long name", rig.list(k, 20) + " " + rig.list(k, 45), "-1 -1");
    }

    private static void listNoneSuch() {
        Rig.sentence("NoSuchElementException: there is none such");
        Rig rig = new Rig();
        for (int count = 0; count < 4; count++) {
            for (int k : new int[] {Integer.MIN_VALUE, -1, count, count + 1, Integer.MAX_VALUE}) {
                Rig.due(k + " of " + count, rig.list(k, 0) + rig.list(k, 10) + rig.list(k, 45), Rig.NO_SUCH.repeat(3));
            }
            rig.file("F" + count);
            Rig.due("the last of " + count, rig.list(count, 0), 1);
        }
    }

    private static void listAnotherWhat() {
        Rig.sentence("IndexOutOfBoundsException: another what (not 0 .. 3, 10 .. 15, 20 .. 45).");
        Rig rig = new Rig();
        rig.file("F");
        for (int what = -3; what < 50; what++) {
            boolean good = what >= 0 && what <= 3 || what >= 10 && what <= 15 || what >= 20 && what <= 45;
            Rig.due("what " + what, rig.list(0, what).equals(Rig.BOUNDS), !good);
        }
        Rig.due("far away", rig.list(0, Integer.MIN_VALUE) + rig.list(0, Integer.MAX_VALUE) + rig.list(0, 256), Rig.BOUNDS.repeat(3));
    }

    private static void octetNoneSuch() {
        Rig.sentence("Byte k of a sector, .. -1 if there is none such.");
        Rig rig = new Rig();
        int[][] places = {{-1, 0}, {-1, 32}, {70, 0}, {70, -32}, {0, -1}, {1, -1}, {0, 32}, {69, 32}, {1 << 27, 0},
            {Integer.MIN_VALUE, 0}, {Integer.MAX_VALUE, 0}, {0, Integer.MIN_VALUE}, {0, Integer.MAX_VALUE}};
        for (int[] place : places) {
            Rig.due(place[0] + ", " + place[1], rig.octet(place[0], place[1]), -1);
        }
        Rig.due("the corners", rig.octet(0, 0) + " " + rig.octet(0, 31) + " " + rig.octet(69, 0) + " " + rig.octet(69, 31), "255 0 0 0");
    }

    private static void octetWithoutPower() {
        Rig.sentence("Byte k of a sector, also without power");
        Rig rig = new Rig();
        rig.file("A");
        rig.volume.cut(0);
        rig.file("B");
        Rig.due("bytes", rig.octet(0, 0) + " " + rig.octet(8, 0) + " " + rig.octet(8, 16) + " " + rig.octet(70, 0), "255 65 0 -1");
    }

    private static void lookAtThePower() {
        Rig.sentence("1 if the power is on, else 0 (what = 0)");
        Rig rig = new Rig();
        rig.volume.cut(0);
        Rig.due("on", rig.look(0), 1);
        rig.file("A");
        Rig.due("off", rig.look(0), 0);
        rig.volume.power();
        Rig.due("on again", rig.look(0), 1);
    }

    private static void lookAtTheWrites() {
        Rig.sentence("the writes ever (1)");
        Rig rig = new Rig();
        rig.file("A");
        rig.volume.cut(2);
        rig.directory("D");
        Rig.due("those before the cut, not the one at it", rig.writes(), 3);
        rig.volume.power();
        Rig.due("they stay", rig.writes(), 3);
        rig.repair();
        Rig.due("those of a repair, too", rig.writes(), 5);
        rig.volume.poke(60, 0, 1);
        Rig.due("not a poke", rig.writes(), 5);
    }

    private static void lookAtTheFreeClusters() {
        Rig.sentence("the free clusters (2)");
        Rig rig = new Rig();
        Rig.due("all", rig.free(), 61);
        rig.pokeCell(3, 256);
        Rig.due("a cell whose lowest byte is 0 is not free", rig.free(), 60);
        rig.pokeCell(2, 0);
        rig.pokeCell(0, 0);
        Rig.due("cell 2 is a cluster's, cell 0 is not", rig.free(), 61);
        rig.pokePair(4, 0, 0);
        Rig.due("nor is there a cell 64", rig.free(), 61);
        Rig full = new Rig();
        full.occupyFrom(3);
        Rig.due("none", full.free(), 0);
    }

    private static void lookAtHere() {
        Rig.sentence("the first cluster of HERE (3)");
        Rig rig = new Rig();
        rig.directory("D");
        rig.enter("D");
        for (int i = 0; i < 3; i++) {
            rig.file("F" + i);
        }
        Rig.due("of two", rig.look(3) + " " + rig.cell(3), "3 4");
        rig.enter("");
        Rig.due("the ROOT", rig.look(3), 2);
    }

    private static void lookAtTheLine() {
        Rig.sentence("the characters of the line (4)");
        Rig rig = new Rig();
        Rig.due("empty", rig.look(4), 0);
        for (int i = 1; i <= 28; i++) {
            rig.type("x");
            Rig.due("typed " + i, rig.look(4), Math.min(i, 26));
        }
    }

    private static void lookAtHandles() {
        Rig.sentence("and POSITION of handle 0 .. 3 (10 + it; -1 if it is not open)");
        Rig rig = new Rig();
        rig.file("F");
        rig.open("F");
        rig.append(0, 9);
        for (int handle = 1; handle < 4; handle++) {
            Rig.due("not open", rig.look(10 + handle), -1);
            rig.open("F");
            Rig.due("opened", rig.look(10 + handle), 0);
            rig.volume.seek(handle, handle);
        }
        Rig.due("each its own", rig.look(10) + " " + rig.look(11) + " " + rig.look(12) + " " + rig.look(13), "9 1 2 3");
        rig.volume.close(3);
        Rig.due("closed", rig.look(13) + " " + rig.look(12), "-1 2");
    }

    private static void lookAtAnother() {
        Rig.sentence("-1 for another what.");
        Rig rig = new Rig();
        rig.file("F");
        for (int handle = 0; handle < 4; handle++) {
            rig.open("F");
        }
        for (int what : new int[] {Integer.MIN_VALUE, -2, -1, 5, 6, 8, 9, 14, 15, 20, 256, Integer.MAX_VALUE}) {
            Rig.due("what " + what, rig.look(what), -1);
        }
    }
}
