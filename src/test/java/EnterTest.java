/** Promise 5. */
public final class EnterTest {
    public static void main(String[] args) {
        Rig rig = new Rig();
        rig.directory("D");
        rig.file("F");
        Rig.due("enter", rig.enter("d"), Rig.DONE);
        Rig.due("HERE", rig.look(3), 3);
        Rig.due("line", rig.look(4), 0);
        Rig.due("empty", rig.list(0, 0), Rig.NO_SUCH);
        Rig.due("not from here", rig.enter("D"), Rig.NO_SUCH);
        Rig.due("line", rig.look(4), 0);
        Rig.due("HERE stays", rig.look(3), 3);
        rig.directory("a.long.directory");
        Rig.due("by the long name", rig.enter("A.LONG.directory"), Rig.DONE);
        int deep = rig.look(3);
        Rig.due("to the ROOT", rig.enter(""), Rig.DONE);
        Rig.due("HERE", rig.look(3), 2);
        rig.enter("D");
        Rig.due("by the short name", rig.enter("alon~1"), Rig.DONE);
        Rig.due("HERE", rig.look(3), deep);
        rig.enter("");
        Rig.due("a file", rig.enter("F"), Rig.NO_SUCH);
        Rig.due("none", rig.enter("X"), Rig.NO_SUCH);
        Rig.due("no good name", rig.enter("."), Rig.NO_SUCH);
        depthAfterTheRoot();
        withoutPower();
        Rig.end();
    }

    private static void depthAfterTheRoot() {
        Rig rig = new Rig();
        rig.directory("D");
        for (int i = 0; i < 9; i++) {
            rig.enter("D");
            rig.enter("");
        }
        Rig.due("the depth is that of the ROOT", rig.directory("E"), Rig.DONE);
    }

    private static void withoutPower() {
        Rig rig = new Rig();
        rig.directory("D");
        rig.volume.poke(60, 0, 1);
        Rig.due("suspect", rig.enter("D"), Rig.STATE);
        Rig.due("line stays", rig.look(4), 1);
        rig.repair();
        Rig.due("repaired", rig.enter(""), Rig.DONE);
        rig.volume.cut(0);
        rig.file("F");
        Rig.due("no power", rig.enter(""), Rig.STATE);
    }
}
