import java.util.function.Consumer;
import java.util.function.Function;

/** "What throws or is refused changes nothing, where nothing else is said": each cause, by twins. */
public final class RefusedTest {
    private static final String REFUSED = "false";

    public static void main(String[] args) {
        Rig.sentence("What throws or is refused changes nothing, where nothing else is said.");
        type();
        create();
        createWithoutRoom();
        delete();
        enter();
        open();
        closeAndSeek();
        read();
        write();
        writeWithoutRoom();
        list();
        cutAndPower();
        poke();
        suspect();
        withoutPower();
        Rig.end();
    }

    private static void due(String what, Consumer<Rig> before, Function<Rig, String> call, String want) {
        Twins.dueUnchanged(what, before, call, want);
    }

    /** A directory HERE with a file in it, open and read in part, another one, and a cut that is set. */
    private static void usual(Rig rig) {
        rig.directory("D");
        rig.enter("D");
        rig.file("F");
        rig.open("F");
        rig.append(0, 40);
        rig.volume.seek(0, 35);
        rig.directory("a.long.name");
        rig.volume.cut(5);
    }

    private static void typed(Rig rig) {
        usual(rig);
        rig.type("ABC");
    }

    private static void type() {
        for (char c : new char[] {0, 32, 47, 127, 65535}) {
            due("type", RefusedTest::typed, rig -> "" + rig.volume.type(c), REFUSED);
        }
        due("type a 27th one", rig -> {
            usual(rig);
            rig.type("abcdefghijklmnopqrstuvwxyz");
        }, rig -> "" + rig.volume.type('A'), REFUSED);
    }

    private static void create() {
        due("no name", RefusedTest::usual, rig -> rig.file(""), Rig.ARGUMENT);
        due("a point", RefusedTest::usual, rig -> rig.directory(".A"), Rig.ARGUMENT);
        due("kind 0", RefusedTest::usual, rig -> rig.create("A", 0), Rig.ARGUMENT);
        due("kind 3", RefusedTest::usual, rig -> rig.create("A", 3), Rig.ARGUMENT);
        due("called so", RefusedTest::usual, rig -> rig.file("f"), Rig.UNSUPPORTED);
        due("a directory called so", RefusedTest::usual, rig -> rig.directory("A.LONG.NAME"), Rig.UNSUPPORTED);
        due("a sixth one", rig -> {
            usual(rig);
            rig.volume.cut(99);
            rig.enter("a.long.name");
            rig.directory("D");
            rig.enter("D");
            rig.directory("D");
            rig.enter("D");
        }, rig -> rig.directory("D"), Rig.UNSUPPORTED);
        due("no digit", rig -> {
            for (int i = 0; i < 9; i++) {
                rig.file("long" + i);
            }
        }, rig -> rig.file("long.x"), Rig.UNSUPPORTED);
    }

    private static void createWithoutRoom() {
        due("no cluster for a directory", rig -> rig.occupyFrom(3), rig -> rig.directory("D"), Rig.UNSUPPORTED);
        due("no cluster for a row", rig -> rig.occupyFrom(3), rig -> rig.file("two"), Rig.UNSUPPORTED);
    }

    private static void delete() {
        due("none", RefusedTest::usual, rig -> rig.delete("X"), Rig.NO_SUCH);
        due("an empty line", RefusedTest::usual, rig -> rig.delete(""), Rig.NO_SUCH);
        due("open", RefusedTest::usual, rig -> rig.delete("F"), Rig.UNSUPPORTED);
        due("not empty", rig -> {
            usual(rig);
            rig.enter("");
        }, rig -> rig.delete("D"), Rig.UNSUPPORTED);
    }

    private static void enter() {
        due("none", RefusedTest::usual, rig -> rig.enter("X"), Rig.NO_SUCH);
        due("a file", RefusedTest::usual, rig -> rig.enter("F"), Rig.NO_SUCH);
    }

    private static void open() {
        due("none", RefusedTest::usual, rig -> rig.open("X"), Rig.NO_SUCH);
        due("a directory", RefusedTest::usual, rig -> rig.open("a.long.name"), Rig.NO_SUCH);
        due("all are open", rig -> {
            usual(rig);
            rig.open("F");
            rig.open("F");
            rig.open("F");
        }, rig -> rig.open("F"), Rig.UNSUPPORTED);
    }

    private static void closeAndSeek() {
        for (int handle : new int[] {-1, 1, 3, 4}) {
            due("close " + handle, RefusedTest::typed, rig -> "" + rig.volume.close(handle), REFUSED);
            due("seek " + handle, RefusedTest::typed, rig -> "" + rig.volume.seek(handle, 0), REFUSED);
        }
        for (int position : new int[] {-1, 41, Integer.MAX_VALUE}) {
            due("seek to " + position, RefusedTest::typed, rig -> "" + rig.volume.seek(0, position), REFUSED);
        }
    }

    private static void read() {
        for (int n : new int[] {-1, 0, 8}) {
            due("read " + n, RefusedTest::typed, rig -> rig.read(0, n), Rig.ARGUMENT);
        }
        for (int handle : new int[] {-1, 1, 4}) {
            due("read by " + handle, RefusedTest::typed, rig -> rig.read(handle, 1), Rig.ARGUMENT);
        }
    }

    private static void write() {
        for (int n : new int[] {-1, 0, 9}) {
            due("write " + n, RefusedTest::typed, rig -> rig.write(0, -1, n), Rig.ARGUMENT);
        }
        for (int handle : new int[] {-1, 1, 4}) {
            due("write by " + handle, RefusedTest::typed, rig -> rig.write(handle, -1, 1), Rig.ARGUMENT);
        }
        due("too great", rig -> {
            rig.file("F");
            rig.open("F");
            rig.append(0, 1020);
        }, rig -> rig.write(0, -1, 5), Rig.UNSUPPORTED);
    }

    private static void writeWithoutRoom() {
        due("no first cluster", rig -> {
            rig.file("F");
            rig.occupyFrom(3);
            rig.open("F");
        }, rig -> rig.write(0, -1, 8), Rig.UNSUPPORTED);
        due("no next cluster", rig -> {
            rig.file("F");
            rig.occupyFrom(3, 9);
            rig.open("F");
            rig.append(0, 32);
        }, rig -> rig.write(0, -1, 1), Rig.UNSUPPORTED);
    }

    private static void list() {
        for (int k : new int[] {-1, 2, 9}) {
            due("list " + k, RefusedTest::typed, rig -> rig.list(k, 0), Rig.NO_SUCH);
        }
        for (int what : new int[] {-1, 4, 9, 16, 19, 46}) {
            due("list what " + what, RefusedTest::typed, rig -> rig.list(0, what), Rig.BOUNDS);
        }
    }

    private static void cutAndPower() {
        due("cut", RefusedTest::typed, rig -> "" + rig.volume.cut(-1), REFUSED);
        due("power", RefusedTest::typed, rig -> "" + rig.volume.power(), REFUSED);
    }

    private static void poke() {
        int[][] places = {{-1, 0}, {70, 0}, {8, -1}, {8, 32}};
        for (int[] place : places) {
            due("poke", RefusedTest::typed, rig -> "" + rig.volume.poke(place[0], place[1], 9), REFUSED);
        }
    }

    private static void dueSevenThrow(String what, Consumer<Rig> before) {
        due(what + ", create", before, rig -> rig.file(""), Rig.STATE);
        due(what + ", delete", before, rig -> rig.delete(""), Rig.STATE);
        due(what + ", enter", before, rig -> rig.enter(""), Rig.STATE);
        due(what + ", open", before, rig -> rig.open(""), Rig.STATE);
        due(what + ", read", before, rig -> rig.read(0, 1), Rig.STATE);
        due(what + ", write", before, rig -> rig.write(0, 1, 1), Rig.STATE);
        due(what + ", list", before, rig -> rig.list(0, 0), Rig.STATE);
    }

    private static void suspect() {
        dueSevenThrow("suspect", rig -> {
            usual(rig);
            rig.volume.poke(9, 0, 'G');
            rig.type("G");
        });
    }

    private static void withoutPower() {
        Consumer<Rig> off = rig -> {
            usual(rig);
            rig.volume.cut(0);
            rig.file("G");
            rig.type("D");
        };
        dueSevenThrow("no power", off);
        due("no power, repair", off, rig -> rig.repair(), Rig.STATE);
        due("no power, cut", off, rig -> "" + rig.volume.cut(3), REFUSED);
        due("no power, close", off, rig -> "" + rig.volume.close(0), REFUSED);
        due("no power, seek", off, rig -> "" + rig.volume.seek(0, 0), REFUSED);
        due("no power, poke", off, rig -> "" + rig.volume.poke(70, 0, 1), REFUSED);
    }
}
