/** Promise 13. */
public final class PowerTest {
    public static void main(String[] args) {
        Rig rig = new Rig();
        Rig.due("on", rig.volume.power(), false);
        rig.file("A");
        rig.volume.cut(0);
        Rig.due("cut", rig.file("B"), Rig.STATE);
        Rig.due("off", rig.look(0), 0);
        Rig.due("switched on", rig.volume.power(), true);
        Rig.due("on", rig.look(0), 1);
        Rig.due("once", rig.volume.power(), false);
        Rig.due("the disk stays", rig.shortName(0), "A");
        Rig.due("works", rig.file("B"), Rig.DONE);
        rig.volume.cut(0);
        rig.file("C");
        rig.volume.poke(60, 0, 1);
        rig.volume.power();
        Rig.due("suspect still", rig.list(0, 0), Rig.STATE);
        Rig.end();
    }
}
