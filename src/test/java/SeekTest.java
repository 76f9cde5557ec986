/** Promise 8. */
public final class SeekTest {
    public static void main(String[] args) {
        Rig rig = new Rig();
        rig.file("F");
        Rig.due("not open", rig.volume.seek(0, 0), false);
        rig.open("F");
        Rig.due("empty", rig.volume.seek(0, 0), true);
        Rig.due("behind the end", rig.volume.seek(0, 1), false);
        rig.append(0, 40);
        for (int position = 0; position <= 40; position++) {
            Rig.due("seek", rig.volume.seek(0, position), true);
            Rig.due("POSITION", rig.look(10), position);
        }
        for (int position : new int[] {41, -1, Integer.MIN_VALUE, Integer.MAX_VALUE}) {
            Rig.due("seek " + position, rig.volume.seek(0, position), false);
            Rig.due("POSITION stays", rig.look(10), 40);
        }
        for (int handle : new int[] {-1, 1, 3, 4, 100}) {
            Rig.due("handle " + handle, rig.volume.seek(handle, 0), false);
        }
        rig.open("F");
        rig.append(0, 2);
        Rig.due("the size by the other handle", rig.volume.seek(1, 42), true);
        rig.volume.poke(60, 0, 1);
        Rig.due("suspect", rig.volume.seek(0, 0), false);
        Rig.end();
    }
}
