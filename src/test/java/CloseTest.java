/** Promise 7. */
public final class CloseTest {
    public static void main(String[] args) {
        Rig rig = new Rig();
        rig.file("F");
        for (int handle : new int[] {Integer.MIN_VALUE, -1, 0, 1, 2, 3, 4, Integer.MAX_VALUE}) {
            Rig.due("not open " + handle, rig.volume.close(handle), false);
        }
        rig.open("F");
        rig.open("F");
        Rig.due("close", rig.volume.close(0), true);
        Rig.due("closed", rig.look(10), -1);
        Rig.due("the other one", rig.look(11), 0);
        Rig.due("again", rig.volume.close(0), false);
        Rig.due("read", rig.read(0, 1), Rig.ARGUMENT);
        rig.volume.cut(0);
        rig.file("G");
        Rig.due("without power", rig.volume.close(1), false);
        Rig.end();
    }
}
