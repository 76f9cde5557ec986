import java.util.Arrays;
import java.util.function.Supplier;

/** A volume under test: calls with names typed first, answers as texts, and what was due of them. */
final class Rig {
    static final String ARGUMENT = "IllegalArgumentException";
    static final String STATE = "IllegalStateException";
    static final String UNSUPPORTED = "UnsupportedOperationException";
    static final String NO_SUCH = "NoSuchElementException";
    static final String BOUNDS = "IndexOutOfBoundsException";
    static final String DONE = "done";

    private static int wrong;
    private static String sentence = "";

    final FileVolume volume = new FileVolume();

    static void due(String what, Object got, Object want) {
        String answer = String.valueOf(got);
        if (!answer.equals(String.valueOf(want))) {
            wrong++;
            System.out.println(sentence + what + ": answered " + answer + ", due is " + want);
        }
    }

    /** The words of the document that the next answers are held against. */
    static void sentence(String words) {
        sentence = "\"" + words + "\" ";
    }

    static void end() {
        if (wrong != 0) {
            System.out.println(wrong + " answers are not as due");
            System.exit(1);
        }
    }

    private static String answer(Supplier<Object> call) {
        try {
            return String.valueOf(call.get());
        } catch (RuntimeException e) {
            return e.getClass().getSimpleName();
        }
    }

    private static String done(Runnable call) {
        return answer(() -> {
            call.run();
            return DONE;
        });
    }

    Rig type(String text) {
        for (char c : text.toCharArray()) {
            volume.type(c);
        }
        return this;
    }

    String create(String name, int kind) {
        type(name);
        return done(() -> volume.create(kind));
    }

    String file(String name) {
        return create(name, 1);
    }

    String directory(String name) {
        return create(name, 2);
    }

    String delete(String name) {
        type(name);
        return done(volume::delete);
    }

    String enter(String name) {
        type(name);
        return done(volume::enter);
    }

    String open(String name) {
        type(name);
        return answer(volume::open);
    }

    String read(int handle, int n) {
        return answer(() -> volume.read(handle, n));
    }

    String write(int handle, long bytes, int n) {
        return answer(() -> volume.write(handle, bytes, n));
    }

    /** Writes so many bytes, eight by eight, the byte at position p being p & 127. */
    void append(int handle, int count) {
        int position = volume.look(10 + handle);
        for (int done = 0; done < count; ) {
            int n = Math.min(8, count - done);
            long bytes = 0;
            for (int i = 0; i < n; i++) {
                bytes = bytes << 8 | (position + done + i & 127);
            }
            due("append", write(handle, bytes, n), n);
            done += n;
        }
    }

    /** Makes a file of so many bytes HERE and closes it. */
    void fileOf(String name, int size) {
        due("create " + name, file(name), DONE);
        int handle = Integer.parseInt(open(name));
        append(handle, size);
        volume.close(handle);
    }

    String list(int k, int what) {
        return answer(() -> volume.list(k, what));
    }

    String shortName(int k) {
        return text(k, 10, 6);
    }

    String longName(int k) {
        return text(k, 20, 26);
    }

    private String text(int k, int from, int most) {
        StringBuilder text = new StringBuilder();
        for (int i = 0; i < most; i++) {
            int c = volume.list(k, from + i);
            if (c >= 0) {
                text.append((char) c);
            }
        }
        return text.toString();
    }

    String repair() {
        return answer(volume::repair);
    }

    /** The repair must answer so many FIXES by so many writes, and leave nothing for another one. */
    void dueFixes(String what, int fixes, int writes) {
        int before = writes();
        due(what + ", fixes", repair(), fixes);
        due(what + ", writes", writes() - before, writes);
        due(what + ", again", repair(), 0);
    }

    int look(int what) {
        return volume.look(what);
    }

    int writes() {
        return volume.look(1);
    }

    int free() {
        return volume.look(2);
    }

    int octet(int sector, int k) {
        return volume.octet(sector, k);
    }

    int cell(int cluster) {
        return pair(cluster / 16, cluster % 16 * 2);
    }

    int secondCell(int cluster) {
        return pair(4 + cluster / 16, cluster % 16 * 2);
    }

    private int pair(int sector, int k) {
        return octet(sector, k) + 256 * octet(sector, k + 1);
    }

    void pokeCell(int cluster, int value) {
        pokePair(cluster / 16, cluster % 16 * 2, value);
    }

    void pokeBothCells(int cluster, int value) {
        pokeCell(cluster, value);
        pokePair(4 + cluster / 16, cluster % 16 * 2, value);
    }

    void pokePair(int sector, int k, int value) {
        due("poke", volume.poke(sector, k, value & 255), true);
        due("poke", volume.poke(sector, k + 1, value >> 8), true);
    }

    /** Sixteen bytes of an entry as numbers with blanks between. */
    String entry(int sector, int half) {
        StringBuilder text = new StringBuilder();
        for (int i = 0; i < 16; i++) {
            text.append(i == 0 ? "" : " ").append(octet(sector, half * 16 + i));
        }
        return text.toString();
    }

    /** How many of the two entries of a sector have been marked by 229. */
    int freedIn(int sector) {
        return (octet(sector, 0) == 229 ? 1 : 0) + (octet(sector, 16) == 229 ? 1 : 0);
    }

    /**
     * Makes a file X of the clusters from one on, all free till now, but for those that are to be left.
     * Pokes and a repair do it, since an object has no more than 512 calls.
     */
    void occupyFrom(int first, int... left) {
        file("X");
        int size = 0;
        int next = 65535;
        for (int cluster = 63; cluster >= first; cluster--) {
            int wanted = cluster;
            if (Arrays.stream(left).noneMatch(c -> c == wanted)) {
                pokeFreeCell(cluster, next);
                next = cluster;
                size += 32;
            }
        }
        int entry = octet(8, 0) == 'X' ? 0 : 16;
        pokePair(8, entry + 8, next);
        pokePair(8, entry + 10, size);
        repair();
        due("occupied", free(), left.length);
    }

    private void pokeFreeCell(int cluster, int value) {
        volume.poke(cluster / 16, cluster % 16 * 2, value & 255);
        if (value > 255) {
            volume.poke(cluster / 16, cluster % 16 * 2 + 1, value >> 8);
        }
    }

    /** Makes the files X and Y, open as handles 0 and 1, and leaves so many clusters free, 29 at most. */
    void fillBut(int clusters) {
        file("X");
        file("Y");
        open("X");
        open("Y");
        append(0, 1024);
        append(1, 32 * (29 - clusters));
        due("fill", free(), clusters);
    }
}
