/** Promise 16. */
public final class PokeTest {
    public static void main(String[] args) {
        Rig rig = new Rig();
        rig.directory("D");
        rig.enter("D");
        rig.file("F");
        rig.open("F");
        rig.type("AB");
        int[][] wrong = {{-1, 0}, {70, 0}, {0, -1}, {0, 32}, {Integer.MAX_VALUE, 0}, {0, Integer.MIN_VALUE}};
        for (int[] place : wrong) {
            Rig.due("poke " + place[0] + " " + place[1], rig.volume.poke(place[0], place[1], 1), false);
        }
        Rig.due("not suspect by these", rig.list(0, 0), 1);
        Rig.due("nor closed", rig.look(10) + " " + rig.look(3), "0 3");
        int writes = rig.writes();
        Rig.due("poke", rig.volume.poke(69, 31, 255), true);
        Rig.due("byte", rig.octet(69, 31), 255);
        Rig.due("no write", rig.writes(), writes);
        Rig.due("handle", rig.look(10), -1);
        Rig.due("HERE", rig.look(3), 2);
        Rig.due("line stays", rig.look(4), 2);
        Rig.due("power", rig.look(0), 1);
        Rig.due("suspect", rig.file("") + rig.delete("") + rig.enter("") + rig.open("") + rig.read(0, 1)
                + rig.write(0, 1, 1) + rig.list(0, 0), Rig.STATE.repeat(7));
        Rig.due("line stays", rig.look(4), 2);
        Rig.due("cut can be set", rig.volume.cut(99), true);
        Rig.due("nothing to fix", rig.repair(), 0);
        Rig.due("sound", rig.file(""), Rig.DONE);
        valuesThatAreNoBytes();
        sameByte();
        withoutPower();
        Rig.end();
    }

    /** The document does not say what becomes of such a value, but a byte stays a byte. */
    private static void valuesThatAreNoBytes() {
        for (int value : new int[] {Integer.MIN_VALUE, -1, 256, 256 + 7, Integer.MAX_VALUE}) {
            Rig rig = new Rig();
            boolean done = rig.volume.poke(20, 0, value);
            int octet = rig.octet(20, 0);
            Rig.due("a byte by " + value, octet >= 0 && octet <= 255, true);
            Rig.due("unchanged or suspect", rig.list(0, 0), done ? Rig.STATE : Rig.NO_SUCH);
        }
    }

    private static void sameByte() {
        Rig rig = new Rig();
        rig.volume.poke(20, 0, 0);
        Rig.due("suspect by the same value", rig.list(0, 0), Rig.STATE);
    }

    private static void withoutPower() {
        Rig rig = new Rig();
        rig.volume.cut(0);
        rig.file("A");
        Rig.due("poke", rig.volume.poke(0, 0, 1), true);
        Rig.due("byte", rig.octet(0, 0), 1);
        Rig.due("off still", rig.look(0), 0);
        rig.volume.power();
        Rig.due("suspect", rig.list(0, 0), Rig.STATE);
        Rig.due("fixes", rig.repair(), 2);
    }
}
