/** Promise 9. */
public final class ReadTest {
    public static void main(String[] args) {
        pieces();
        wrongInputs();
        highBytes();
        withoutPower();
        Rig.end();
    }

    private static String bytes(int position, int count) {
        long answer = 0;
        for (int i = 0; i < count; i++) {
            answer = answer << 8 | (position + i & 127);
        }
        return String.valueOf(((long) count << 56) + answer);
    }

    private static void pieces() {
        Rig rig = new Rig();
        rig.file("F");
        rig.open("F");
        Rig.due("nothing", rig.read(0, 7), 0);
        rig.append(0, 75);
        Rig.due("at the end", rig.read(0, 1), 0);
        for (int n = 1; n <= 7; n++) {
            rig.volume.seek(0, 0);
            for (int position = 0; position < 75; position += n) {
                int count = Math.min(n, 75 - position);
                Rig.due("read " + n + " at " + position, rig.read(0, n), bytes(position, count));
                Rig.due("POSITION", rig.look(10), position + count);
            }
            Rig.due("behind", rig.read(0, n), 0);
        }
        int writes = rig.writes();
        rig.open("F");
        Rig.due("by another handle", rig.read(1, 3), bytes(0, 3));
        Rig.due("no writes", rig.writes(), writes);
    }

    private static void wrongInputs() {
        Rig rig = new Rig();
        rig.file("F");
        Rig.due("not open", rig.read(0, 1), Rig.ARGUMENT);
        rig.open("F");
        rig.append(0, 9);
        rig.volume.seek(0, 0);
        for (int n : new int[] {Integer.MIN_VALUE, -1, 0, 8, Integer.MAX_VALUE}) {
            Rig.due("n " + n, rig.read(0, n), Rig.ARGUMENT);
        }
        for (int handle : new int[] {Integer.MIN_VALUE, -1, 1, 4, Integer.MAX_VALUE}) {
            Rig.due("handle " + handle, rig.read(handle, 1), Rig.ARGUMENT);
        }
        Rig.due("POSITION stays", rig.look(10), 0);
    }

    private static void highBytes() {
        Rig rig = new Rig();
        rig.file("F");
        rig.open("F");
        rig.write(0, -1L, 8);
        rig.volume.seek(0, 0);
        Rig.due("seven of 255", rig.read(0, 7), (7L << 56) + (1L << 56) - 1);
        Rig.due("one of 255", rig.read(0, 7), (1L << 56) + 255);
    }

    private static void withoutPower() {
        Rig rig = new Rig();
        rig.volume.poke(60, 0, 1);
        Rig.due("suspect", rig.read(0, 1), Rig.STATE);
        Rig.due("suspect, wrong n", rig.read(0, 9), Rig.STATE);
        rig.repair();
        Rig.due("repaired", rig.read(0, 1), Rig.ARGUMENT);
        rig.volume.cut(0);
        rig.file("F");
        Rig.due("no power", rig.read(0, 1), Rig.STATE);
    }
}
