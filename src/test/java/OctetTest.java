/** Promise 15. */
public final class OctetTest {
    public static void main(String[] args) {
        Rig rig = new Rig();
        rig.file("Q");
        Rig.due("first", rig.octet(0, 0), 255);
        Rig.due("entry", rig.octet(8, 0), (int) 'Q');
        Rig.due("last", rig.octet(69, 31), 0);
        rig.volume.poke(69, 31, 200);
        Rig.due("last poked", rig.octet(69, 31), 200);
        int[][] wrong = {{-1, 0}, {70, 0}, {0, -1}, {0, 32}, {Integer.MIN_VALUE, 5}, {Integer.MAX_VALUE, 5},
            {5, Integer.MIN_VALUE}, {5, Integer.MAX_VALUE}, {-1, 32}};
        for (int[] place : wrong) {
            Rig.due("octet " + place[0] + " " + place[1], rig.octet(place[0], place[1]), -1);
        }
        rig.repair();
        rig.volume.cut(0);
        rig.file("R");
        Rig.due("without power", rig.octet(8, 0), (int) 'Q');
        Rig.end();
    }
}
