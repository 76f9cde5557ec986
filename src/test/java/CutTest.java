/** Promise 12, and what a cut does. */
public final class CutTest {
    public static void main(String[] args) {
        whatEnds();
        countedWrites();
        wrongInputs();
        everyCreate();
        repairIsCut();
        Rig.end();
    }

    private static void whatEnds() {
        Rig rig = new Rig();
        rig.directory("D");
        rig.enter("D");
        rig.file("F");
        rig.open("F");
        Rig.due("cut", rig.volume.cut(0), true);
        Rig.due("on still", rig.look(0), 1);
        int writes = rig.writes();
        Rig.due("throws", rig.file("G"), Rig.STATE);
        Rig.due("power", rig.look(0), 0);
        Rig.due("writes", rig.writes(), writes);
        Rig.due("handle", rig.look(10), -1);
        Rig.due("HERE", rig.look(3), 2);
        Rig.due("line", rig.look(4), 0);
        Rig.due("calls", rig.file("A") + rig.delete("") + rig.enter("") + rig.open("") + rig.read(0, 1)
                + rig.write(0, 1, 1) + rig.list(0, 0) + rig.repair(), Rig.STATE.repeat(8));
        Rig.due("line stays", rig.look(4), 1);
        rig.volume.power();
        Rig.due("the cut is over", rig.file("") + rig.file("B") + rig.file("C"), Rig.DONE.repeat(3));
    }

    private static void countedWrites() {
        for (int k = 0; k < 5; k++) {
            Rig rig = new Rig();
            rig.file("Z");
            rig.volume.cut(k);
            rig.volume.poke(60, 0, 1);
            rig.repair();
            int done = 0;
            while (done < 9 && rig.file("ABCDEFGHI".substring(done, done + 1)).equals(Rig.DONE)) {
                done++;
            }
            int[] made = {0, 1, 1, 1, 1};
            Rig.due("files after " + k, done, made[k]);
            Rig.due("writes", rig.writes(), 1 + k);
        }
        Rig rig = new Rig();
        rig.volume.cut(1);
        rig.file("A");
        rig.volume.cut(1);
        Rig.due("set anew", rig.file("B"), Rig.DONE);
        Rig.due("then cut", rig.file("C"), Rig.STATE);
    }

    private static void wrongInputs() {
        Rig rig = new Rig();
        Rig.due("below 0", rig.volume.cut(-1), false);
        Rig.due("far below 0", rig.volume.cut(Integer.MIN_VALUE), false);
        Rig.due("not set", rig.file("A"), Rig.DONE);
        rig.volume.cut(1);
        rig.volume.cut(-1);
        Rig.due("the cut stays", rig.file("B") + rig.file("C"), Rig.DONE + Rig.STATE);
        Rig.due("no power", rig.volume.cut(5), false);
        rig.volume.power();
        Rig.due("a late one", rig.volume.cut(Integer.MAX_VALUE), true);
        Rig.due("goes on", rig.file("C"), Rig.DONE);
    }

    private static void everyCreate() {
        for (int k = 0; k < 17; k++) {
            Rig rig = new Rig();
            rig.file("A");
            rig.file("B");
            rig.volume.cut(k);
            String want = k < 16 ? Rig.STATE : Rig.DONE;
            Rig.due("cut after " + k, rig.directory("a.directory.of.two.parts"), want);
            rig.volume.power();
            rig.volume.cut(Integer.MAX_VALUE);
            rig.repair();
            Rig.due("entries", rig.list(2, 0), k < 16 ? Rig.NO_SUCH : "2");
            Rig.due("free", rig.free(), k < 16 ? 61 - clustersLinked(k) : 58);
            Rig.due("again", rig.repair(), 0);
        }
    }

    /** Three writes take the directory's cluster; each five more take and link one behind HERE. */
    private static int clustersLinked(int k) {
        return k < 3 + 4 ? 0 : k < 3 + 9 ? 1 : 2;
    }

    private static void repairIsCut() {
        Rig rig = new Rig();
        rig.volume.poke(0, 20, 5);
        rig.type("L");
        rig.volume.cut(1);
        Rig.due("cut", rig.repair(), Rig.STATE);
        Rig.due("line", rig.look(4), 0);
        rig.volume.power();
        Rig.due("suspect still", rig.list(0, 0), Rig.STATE);
        Rig.due("fixes left", rig.repair(), 1);
        Rig.due("sound", rig.list(0, 0), Rig.NO_SUCH);
    }
}
