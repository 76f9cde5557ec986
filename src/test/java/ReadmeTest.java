/** The example of README.md, to the letter, and what it says of the answers. */
public final class ReadmeTest {
    public static void main(String[] args) {
        FileVolume volume = new FileVolume();
        for (char c : "notes.txt".toCharArray()) volume.type(c);
        volume.create(1);
        for (char c : "NOTE~1".toCharArray()) volume.type(c);
        int handle = volume.open();
        volume.write(handle, 0x616263L, 3);
        volume.seek(handle, 0);
        long answer = volume.read(handle, 7);
        volume.close(handle);
        Rig.due("handle", handle, 0);
        Rig.due("answer", answer, (3L << 56) + 0x616263L);
        Rig.due("long name", volume.list(0, 3), 9);

        volume.cut(1);
        for (char c : "NOTE~1".toCharArray()) volume.type(c);
        try {
            volume.delete();
        } catch (IllegalStateException e) {
            Rig.due("power", volume.power(), true);
        }
        int fixes = volume.repair();
        Rig.due("fixes", fixes, 0);
        Rig.due("no long name", volume.list(0, 3), 0);
        Rig.due("the size", volume.list(0, 1), 3);
        Rig.end();
    }
}
