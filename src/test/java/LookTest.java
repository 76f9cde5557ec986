/** Promise 17. */
public final class LookTest {
    public static void main(String[] args) {
        Rig rig = new Rig();
        rig.directory("D");
        rig.file("F");
        rig.open("F");
        rig.open("F");
        rig.open("F");
        rig.open("F");
        for (int handle = 0; handle < 4; handle++) {
            rig.append(handle, handle + 1);
        }
        rig.volume.close(2);
        rig.enter("D");
        rig.type("xyz");
        Rig.due("power", rig.look(0), 1);
        Rig.due("writes", rig.writes(), 4 + 1 + 6 + 2 * 3);
        Rig.due("free", rig.free(), 59);
        Rig.due("HERE", rig.look(3), 3);
        Rig.due("line", rig.look(4), 3);
        Rig.due("handles", rig.look(10) + " " + rig.look(11) + " " + rig.look(12) + " " + rig.look(13), "1 2 -1 4");
        for (int what : new int[] {Integer.MIN_VALUE, -1, 5, 9, 14, 20, Integer.MAX_VALUE}) {
            Rig.due("look " + what, rig.look(what), -1);
        }
        rig.volume.poke(0, 2 * 9, 1);
        Rig.due("free is read in the first table", rig.free(), 58);
        rig.volume.poke(4, 2 * 10, 1);
        Rig.due("not in the second", rig.free(), 58);
        rig.volume.poke(0, 0, 0);
        rig.volume.poke(0, 1, 0);
        Rig.due("cells 0 and 1 are no clusters", rig.free(), 58);
        rig.volume.cut(0);
        rig.repair();
        Rig.due("without power", rig.look(0) + " " + rig.free() + " " + rig.look(3) + " " + rig.look(4), "0 58 2 0");
        Rig.end();
    }
}
