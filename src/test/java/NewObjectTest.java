/** Promise 1. */
public final class NewObjectTest {
    public static void main(String[] args) {
        Rig rig = new Rig();
        Rig.due("power", rig.look(0), 1);
        Rig.due("writes", rig.writes(), 0);
        Rig.due("free clusters", rig.free(), 61);
        Rig.due("HERE", rig.look(3), 2);
        Rig.due("line", rig.look(4), 0);
        for (int handle = 0; handle < 4; handle++) {
            Rig.due("handle", rig.look(10 + handle), -1);
        }
        for (int cell = 0; cell < 64; cell++) {
            Rig.due("cell " + cell, rig.cell(cell), cell < 3 ? 65535 : 0);
            Rig.due("second cell " + cell, rig.secondCell(cell), cell < 3 ? 65535 : 0);
        }
        for (int sector = 8; sector < 70; sector++) {
            Rig another = new Rig();
            for (int k = 0; k < 32; k++) {
                Rig.due("sector " + sector, another.octet(sector, k), 0);
            }
        }
        Rig.due("an empty ROOT", rig.list(0, 0), Rig.NO_SUCH);
        Rig.due("nothing to repair", rig.repair(), 0);
        Rig.due("no write by that", rig.writes(), 0);
        Rig.end();
    }
}
