/** Promise 4. */
public final class DeleteTest {
    public static void main(String[] args) {
        files();
        longNames();
        directories();
        wrongInputs();
        cutInBetween();
        namesThatTwoBear();
        Rig.end();
    }

    private static void files() {
        Rig rig = new Rig();
        rig.file("F");
        rig.open("F");
        rig.append(0, 70);
        Rig.due("open", rig.delete("F"), Rig.UNSUPPORTED);
        Rig.due("line", rig.look(4), 0);
        rig.open("F");
        rig.volume.close(0);
        Rig.due("open still", rig.delete("f"), Rig.UNSUPPORTED);
        rig.volume.close(1);
        int writes = rig.writes();
        Rig.due("closed", rig.delete("f"), Rig.DONE);
        Rig.due("writes", rig.writes() - writes, 1 + 3 * 2);
        Rig.due("free", rig.free(), 61);
        Rig.due("entry", rig.entry(8, 0), "229 32 32 32 32 32 1 0 3 0 70 0 0 0 0 0");
        Rig.due("data stays", rig.octet(9, 1), 1);
        Rig.due("second table", rig.secondCell(3) + rig.secondCell(4) + rig.secondCell(5), 0);
        Rig.due("gone", rig.delete("F"), Rig.NO_SUCH);
    }

    private static void longNames() {
        Rig rig = new Rig();
        rig.file("A");
        rig.file("a.long.name.of.two.parts");
        rig.file("B");
        Rig.due("by the short name", rig.delete("alon~1"), Rig.DONE);
        Rig.due("parts and entry", rig.octet(8, 16) + " " + rig.octet(9, 0) + " " + rig.octet(9, 16), "229 229 229");
        Rig.due("others stay", rig.shortName(0) + rig.shortName(1), "AB");
    }

    private static void directories() {
        Rig rig = new Rig();
        rig.directory("D");
        rig.enter("D");
        rig.file("a.long.name.of.two.parts");
        rig.enter("");
        Rig.due("not empty", rig.delete("D"), Rig.UNSUPPORTED);
        rig.enter("D");
        rig.delete("a.long.name.of.two.parts");
        rig.enter("");
        int writes = rig.writes();
        Rig.due("only FREE entries", rig.delete("D"), Rig.DONE);
        Rig.due("its whole chain", rig.writes() - writes, 1 + 2 * 2);
        Rig.due("free", rig.free(), 61);
        rig.directory("E");
        rig.enter("E");
        rig.volume.cut(1);
        rig.file("f");
        rig.volume.power();
        Rig.due("a part alone is an entry", rig.delete("E"), Rig.UNSUPPORTED);
    }

    private static void wrongInputs() {
        Rig rig = new Rig();
        rig.file("A");
        Rig.due("none", rig.delete("B"), Rig.NO_SUCH);
        Rig.due("line", rig.look(4), 0);
        Rig.due("empty line", rig.delete(""), Rig.NO_SUCH);
        Rig.due("a beginning", rig.delete("AA"), Rig.NO_SUCH);
        rig.volume.poke(60, 0, 1);
        Rig.due("suspect", rig.delete("A"), Rig.STATE);
        Rig.due("line stays", rig.look(4), 1);
        rig.repair();
        Rig.due("then", rig.delete(""), Rig.DONE);
    }

    private static void cutInBetween() {
        for (int k = 0; k < 7; k++) {
            Rig rig = new Rig();
            rig.file("fourteen_chars");
            rig.open("four~1");
            rig.append(0, 40);
            rig.volume.close(0);
            rig.volume.cut(k);
            Rig.due("cut " + k, rig.delete("fourteen_chars"), Rig.STATE);
            rig.volume.power();
            Rig.due("the parts, in either order", rig.freedIn(8), Math.min(k, 2));
            Rig.due("then the entry", rig.octet(9, 0), k > 2 ? 229 : 70);
            Rig.due("then the first cell", rig.cell(4), k > 3 ? 0 : 5);
            Rig.due("and in the second table", rig.secondCell(4), k > 4 ? 0 : 5);
            Rig.due("then the next cell", rig.cell(5), k > 5 ? 0 : 65535);
            Rig.due("a long name", rig.list(0, 3), k == 0 ? "14" : k < 3 ? "0" : Rig.NO_SUCH);
        }
    }

    private static void namesThatTwoBear() {
        Rig rig = new Rig();
        rig.file("long~2");
        rig.directory("longname");
        Rig.due("short names", rig.shortName(0) + " " + rig.shortName(1), "LONG~1 LONG~2");
        Rig.due("open finds the file", rig.open("LONG~2"), 0);
        rig.volume.close(0);
        Rig.due("delete finds the first", rig.delete("LONG~2"), Rig.DONE);
        Rig.due("left", rig.longName(0), "longname");
    }
}
