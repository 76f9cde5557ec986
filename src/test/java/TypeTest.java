/** Promise 2. */
public final class TypeTest {
    public static void main(String[] args) {
        onlyGoodCharacters();
        atMostTwentySix();
        alsoWithoutPower();
        Rig.end();
    }

    private static void onlyGoodCharacters() {
        for (int c = 0; c < 300; c++) {
            Rig rig = new Rig();
            boolean good = c >= 33 && c <= 126 && c != '/';
            Rig.due("type " + c, rig.volume.type((char) c), good);
            Rig.due("line after " + c, rig.look(4), good ? 1 : 0);
        }
        Rig.due("type 65535", new Rig().volume.type((char) 65535), false);
        Rig.due("256 + 'A'", new Rig().volume.type((char) (256 + 'A')), false);
    }

    private static void atMostTwentySix() {
        Rig rig = new Rig();
        for (int i = 0; i < 26; i++) {
            Rig.due("character " + i, rig.volume.type((char) ('a' + i)), true);
        }
        Rig.due("character 26", rig.volume.type('x'), false);
        Rig.due("line", rig.look(4), 26);
        rig.file("");
        Rig.due("all of them", rig.longName(0), "abcdefghijklmnopqrstuvwxyz");
        Rig.due("a new line", rig.volume.type('x'), true);
    }

    private static void alsoWithoutPower() {
        Rig rig = new Rig();
        rig.volume.cut(0);
        Rig.due("cut", rig.file("A"), Rig.STATE);
        Rig.due("type", rig.volume.type('B'), true);
        Rig.due("refused", rig.file(""), Rig.STATE);
        Rig.due("line stays", rig.look(4), 1);
        rig.volume.power();
        rig.file("C");
        Rig.due("name", rig.shortName(0), "BC");
    }
}
