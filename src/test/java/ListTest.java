/** Promise 11. */
public final class ListTest {
    public static void main(String[] args) {
        Rig rig = new Rig();
        rig.file("F");
        rig.directory("a.directory.of.two.parts");
        rig.file("GHIJKL");
        rig.open("F");
        rig.append(0, 300);
        Rig.due("kinds", rig.list(0, 0) + rig.list(1, 0) + rig.list(2, 0), "121");
        Rig.due("sizes", rig.list(0, 1) + " " + rig.list(1, 1) + " " + rig.list(2, 1), "300 0 0");
        Rig.due("clusters", rig.list(0, 2) + " " + rig.list(1, 2) + " " + rig.list(2, 2), "6 3 0");
        Rig.due("long lengths", rig.list(0, 3) + " " + rig.list(1, 3), "0 24");
        Rig.due("short", rig.shortName(0) + " " + rig.shortName(1) + " " + rig.shortName(2), "F ADIR~1 GHIJKL");
        Rig.due("long", rig.longName(0) + "/" + rig.longName(1), "/a.directory.of.two.parts");
        Rig.due("behind the short name", rig.list(0, 11) + rig.list(0, 15), "-1-1");
        Rig.due("its ends", rig.list(2, 10) + " " + rig.list(2, 15), "71 76");
        Rig.due("ends of the long name", rig.list(1, 20) + " " + rig.list(1, 43) + " " + rig.list(1, 44), "97 115 -1");
        Rig.due("no long name", rig.list(0, 20) + rig.list(0, 45), "-1-1");
        for (int what : new int[] {Integer.MIN_VALUE, -1, 4, 9, 16, 19, 46, Integer.MAX_VALUE}) {
            Rig.due("what " + what, rig.list(0, what), Rig.BOUNDS);
        }
        for (int k : new int[] {Integer.MIN_VALUE, -1, 3, Integer.MAX_VALUE}) {
            Rig.due("k " + k, rig.list(k, 0), Rig.NO_SUCH);
            String both = rig.list(k, 4);
            Rig.due("k and what " + both, both.equals(Rig.NO_SUCH) || both.equals(Rig.BOUNDS), true);
        }
        rig.delete("adir~1");
        Rig.due("FREE ones do not count", rig.shortName(1), "GHIJKL");
        rig.volume.cut(0);
        rig.file("X");
        Rig.due("no power", rig.list(0, 0), Rig.STATE);
        Rig.due("no power first", rig.list(-1, 99), Rig.STATE);
        partsThatTellNothing();
        Rig.end();
    }

    private static void partsThatTellNothing() {
        int[][] pokes = {{8, 0, 67}, {8, 6, 1}, {8, 7, 1}, {8, 16, 2}, {8, 23, 1}, {8, 0, 65}, {8, 16, 66}};
        for (int[] poke : pokes) {
            Rig rig = new Rig();
            rig.file("fourteen_chars");
            rig.volume.poke(poke[0], poke[1], poke[2]);
            rig.repair();
            int k = poke[1] == 6 ? 1 : 0;
            Rig.due("no long name", rig.list(k, 3), 0);
            Rig.due("the short one", rig.shortName(k), "FOUR~1");
        }
        Rig rig = new Rig();
        rig.file("fourteen_chars");
        rig.volume.poke(8, 16, 65);
        rig.repair();
        Rig.due("one part tells", rig.longName(0), "fourteen_char");
        rig.volume.poke(8, 20, 0);
        rig.repair();
        Rig.due("up to the first 0", rig.longName(0), "fou");
        rig.volume.poke(9, 1, 32);
        rig.repair();
        Rig.due("up to the first 32", rig.list(0, 10) + rig.open("F"), "700");
        Rig.due("its sum is another one", rig.list(0, 3), 0);
    }
}
