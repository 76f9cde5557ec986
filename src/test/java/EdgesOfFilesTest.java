/** The edges of WRITING and of the calls with handles (promises 6 to 10), a test for each sentence. */
public final class EdgesOfFilesTest {
    private static final int[] NO_HANDLES = {Integer.MIN_VALUE, -1, 4, 5, 256, Integer.MAX_VALUE};

    public static void main(String[] args) {
        leastHandle();
        allAreOpen();
        noSuchFile();
        closeWhatIsNotOpen();
        seekWhatIsNotOpen();
        seekFromZeroToTheSize();
        readOneToSeven();
        readLessThanAsked();
        readTheFirstByteHighest();
        readWhatIsNotOpen();
        writeOneToEight();
        writeLowestBytes();
        writeWhatIsNotOpen();
        argumentsComeFirst();
        chainIsLongEnough();
        chainIsTooShort();
        chainOfNone();
        roomForSome();
        roomForNone();
        sectorsInOrder();
        sectorsApart();
        sizeGrowsOrNot();
        greatestFile();
        Rig.end();
    }

    private static Rig withFile(int size) {
        Rig rig = new Rig();
        rig.file("F");
        rig.open("F");
        rig.append(0, size);
        return rig;
    }

    private static void leastHandle() {
        Rig.sentence("at POSITION 0: the handle, the least that is not open.");
        for (int closed = 0; closed < 4; closed++) {
            Rig rig = withFile(9);
            Rig.due("in order", rig.open("F") + rig.open("F") + rig.open("F"), "123");
            rig.volume.seek(closed, 4);
            rig.volume.close(closed);
            Rig.due("the closed one", rig.open("F") + " " + rig.look(10 + closed), closed + " 0");
            rig.volume.close(closed);
            rig.volume.close(3);
            Rig.due("the least of two", rig.open("F"), Math.min(closed, 3));
        }
    }

    private static void allAreOpen() {
        Rig.sentence("UnsupportedOperationException: all are open.");
        Rig rig = withFile(0);
        rig.open("F");
        rig.open("F");
        Rig.due("the last handle", rig.open("F"), 3);
        Rig.due("no more", rig.open("F"), Rig.UNSUPPORTED);
        Rig.due("all stay", rig.look(10) + " " + rig.look(11) + " " + rig.look(12) + " " + rig.look(13), "0 0 0 0");
        Rig.due("line", rig.look(4), 0);
        rig.volume.close(2);
        Rig.due("one is not", rig.open("F"), 2);
    }

    private static void noSuchFile() {
        Rig.sentence("NoSuchElementException: there is no such file HERE");
        Rig rig = new Rig();
        Rig.due("none at all", rig.open("F"), Rig.NO_SUCH);
        rig.directory("D");
        rig.file("F");
        Rig.due("a directory", rig.open("D"), Rig.NO_SUCH);
        Rig.due("an empty line", rig.open(""), Rig.NO_SUCH);
        rig.enter("D");
        Rig.due("elsewhere", rig.open("F"), Rig.NO_SUCH);
        rig.enter("");
        rig.delete("F");
        Rig.due("deleted", rig.open("F"), Rig.NO_SUCH);
        Rig.due("nothing is open", rig.look(10), -1);
    }

    private static void closeWhatIsNotOpen() {
        Rig.sentence("Closes a handle: true; false (refused) if it is not open (also without power).");
        Rig rig = withFile(0);
        for (int handle : NO_HANDLES) {
            Rig.due("close " + handle, rig.volume.close(handle), false);
        }
        Rig.due("never opened", rig.volume.close(1), false);
        Rig.due("open still", rig.look(10), 0);
        Rig.due("twice", rig.volume.close(0) + " " + rig.volume.close(0), "true false");
        rig.open("F");
        rig.volume.cut(0);
        rig.file("G");
        Rig.due("without power", rig.volume.close(0), false);
        rig.volume.power();
        Rig.due("with power again", rig.volume.close(0), false);
        rig.open("F");
        rig.volume.poke(60, 0, 1);
        Rig.due("suspect", rig.volume.close(0), false);
        rig.repair();
        rig.open("F");
        rig.repair();
        Rig.due("repaired", rig.volume.close(0), false);
    }

    private static void seekWhatIsNotOpen() {
        Rig.sentence("Sets a handle's POSITION: true; false (refused) if it is not open");
        Rig rig = withFile(5);
        for (int handle : NO_HANDLES) {
            Rig.due("seek " + handle, rig.volume.seek(handle, 0), false);
        }
        Rig.due("never opened", rig.volume.seek(1, 0), false);
        Rig.due("open", rig.volume.seek(0, 1), true);
        rig.volume.close(0);
        Rig.due("closed", rig.volume.seek(0, 0) + " " + rig.look(10), "false -1");
        rig.open("F");
        rig.volume.cut(0);
        rig.file("G");
        Rig.due("without power", rig.volume.seek(0, 0) + " " + rig.look(10), "false -1");
    }

    private static void seekFromZeroToTheSize() {
        Rig.sentence("or position is not 0 .. the file's size.");
        for (int size : new int[] {0, 1, 31, 32, 33, 300}) {
            Rig rig = withFile(size);
            Rig.due("0", rig.volume.seek(0, 0) + " " + rig.look(10), "true 0");
            Rig.due("the size", rig.volume.seek(0, size) + " " + rig.look(10), "true " + size);
            for (int position : new int[] {size + 1, -1, size + 65536, Integer.MIN_VALUE, Integer.MAX_VALUE}) {
                Rig.due("of " + size + ": " + position, rig.volume.seek(0, position) + " " + rig.look(10), "false " + size);
            }
        }
        Rig rig = withFile(32);
        rig.volume.cut(5);
        rig.write(0, 1, 1);
        rig.volume.power();
        rig.open("F");
        Rig.due("not the clusters", rig.volume.seek(0, 33) + " " + rig.volume.seek(0, 32), "false true");
    }

    private static void readOneToSeven() {
        Rig.sentence("IllegalArgumentException: the handle is not open, or n is not 1 .. 7.");
        Rig rig = withFile(20);
        rig.volume.seek(0, 0);
        for (int n : new int[] {Integer.MIN_VALUE, -1, 0, 8, 9, 257, Integer.MAX_VALUE}) {
            Rig.due("n " + n, rig.read(0, n) + rig.look(10), Rig.ARGUMENT + 0);
        }
        Rig.due("1", rig.read(0, 1) + " " + rig.look(10), (1L << 56) + " 1");
        Rig.due("7", rig.read(0, 7) + " " + rig.look(10), (7L << 56) + 0x01020304050607L + " 8");
    }

    private static void readLessThanAsked() {
        Rig.sentence("Reads up to n bytes (1 .. 7) at the POSITION, which goes on: how many there were, times 2 to the 56th");
        Rig rig = withFile(40);
        for (int left = 0; left <= 8; left++) {
            rig.volume.seek(0, 40 - left);
            long answer = Long.parseLong(rig.read(0, 7));
            Rig.due("how many of " + left, answer >> 56, Math.min(left, 7));
            Rig.due("POSITION", rig.look(10), Math.min(47 - left, 40));
        }
        Rig.due("an empty file", withFile(0).read(0, 7), 0);
        rig.volume.seek(0, 29);
        Rig.due("over the end of a sector", rig.read(0, 7), (7L << 56) + 0x1D1E1F20212223L);
    }

    private static void readTheFirstByteHighest() {
        Rig.sentence("and the bytes, at most 7 of them, the first one the highest of these.");
        Rig rig = withFile(0);
        rig.write(0, 0xF102030405060780L, 8);
        long[] want = {0xF1, 0xF102, 0xF10203, 0xF1020304L, 0xF102030405L, 0xF10203040506L, 0xF1020304050607L};
        for (int n = 1; n <= 7; n++) {
            rig.volume.seek(0, 0);
            Rig.due("of " + n, rig.read(0, n), ((long) n << 56) + want[n - 1]);
        }
        Rig.due("a last one of 128", rig.read(0, 7), (1L << 56) + 0x80);
    }

    private static void readWhatIsNotOpen() {
        Rig.sentence("IllegalArgumentException: the handle is not open");
        Rig rig = withFile(5);
        for (int handle : NO_HANDLES) {
            Rig.due("read " + handle, rig.read(handle, 1), Rig.ARGUMENT);
        }
        Rig.due("never opened", rig.read(1, 1), Rig.ARGUMENT);
        rig.volume.close(0);
        Rig.due("closed", rig.read(0, 1), Rig.ARGUMENT);
    }

    private static void writeOneToEight() {
        Rig.sentence("IllegalArgumentException: the handle is not open, or n is not 1 .. 8");
        Rig rig = withFile(5);
        int writes = rig.writes();
        for (int n : new int[] {Integer.MIN_VALUE, -1, 0, 9, 257, Integer.MAX_VALUE}) {
            Rig.due("n " + n, rig.write(0, 1, n) + rig.look(10), Rig.ARGUMENT + 5);
        }
        Rig.due("nothing written", rig.writes() - writes, 0);
        Rig.due("1", rig.write(0, 1, 1) + " " + rig.look(10), "1 6");
        Rig.due("8", rig.write(0, 1, 8) + " " + rig.look(10), "8 14");
    }

    private static void writeLowestBytes() {
        Rig.sentence("Writes the lowest n bytes (1 .. 8) of a number, the highest of them first, at the POSITION, which goes on");
        for (long bytes : new long[] {0x8182838485868788L, -1L, 0L, Long.MIN_VALUE, Long.MAX_VALUE}) {
            for (int n = 1; n <= 8; n++) {
                Rig rig = withFile(0);
                Rig.due("how many", rig.write(0, bytes, n) + " " + rig.look(10), n + " " + n);
                for (int i = 0; i < 8; i++) {
                    long want = i < n ? bytes >>> 8 * (n - 1 - i) & 255 : 0;
                    Rig.due("byte " + i + " of " + n, rig.octet(9, i), want);
                }
            }
        }
    }

    private static void writeWhatIsNotOpen() {
        Rig.sentence("IllegalArgumentException: the handle is not open");
        Rig rig = withFile(5);
        int writes = rig.writes();
        for (int handle : NO_HANDLES) {
            Rig.due("write " + handle, rig.write(handle, 1, 1), Rig.ARGUMENT);
        }
        rig.volume.close(0);
        Rig.due("closed", rig.write(0, 1, 1) + " " + (rig.writes() - writes), Rig.ARGUMENT + " 0");
    }

    private static void argumentsComeFirst() {
        Rig.sentence("IllegalArgumentException: ..; else UnsupportedOperationException");
        Rig rig = new Rig();
        rig.file("F");
        rig.occupyFrom(3);
        rig.open("F");
        Rig.due("n, and NO ROOM", rig.write(0, 1, 0) + rig.write(0, 1, 9), Rig.ARGUMENT.repeat(2));
        Rig.due("the handle, and NO ROOM", rig.write(1, 1, 1), Rig.ARGUMENT);
        Rig.due("NO ROOM", rig.write(0, 1, 1), Rig.UNSUPPORTED);
        Rig great = withFile(1024);
        Rig.due("n, and too great", great.write(0, 1, 9) + great.write(0, 1, 1), Rig.ARGUMENT + Rig.UNSUPPORTED);
    }

    private static int writesOf(Rig rig, int n) {
        int writes = rig.writes();
        Rig.due("write", rig.write(0, -1, n), n);
        return rig.writes() - writes;
    }

    private static void chainIsLongEnough() {
        Rig.sentence("as long as the chain is too short for POSITION + n: a cluster is taken");
        Rig rig = withFile(24);
        Rig.due("up to the end of a cluster", writesOf(rig, 8) + " " + rig.free(), "2 60");
        rig.volume.seek(0, 31);
        Rig.due("its last byte", writesOf(rig, 1) + " " + rig.free(), "1 60");
    }

    private static void chainIsTooShort() {
        Rig.sentence("a cluster is taken and linked behind the last one");
        for (int size : new int[] {25, 31, 32}) {
            Rig rig = withFile(size);
            int sectors = size == 32 ? 1 : 2;
            Rig.due("8 bytes at " + size, writesOf(rig, 8), 3 + 2 + sectors + 1);
            Rig.due("chain", rig.list(0, 2) + " " + rig.cell(3) + " " + rig.cell(4) + " " + rig.free(), "3 4 65535 59");
        }
        Rig rig = withFile(32);
        Rig.due("one byte behind the end", writesOf(rig, 1) + " " + rig.free(), "7 59");
    }

    private static void chainOfNone() {
        Rig.sentence("(if there is none: a write puts it into the entry)");
        for (int k = 0; k < 7; k++) {
            Rig rig = withFile(0);
            rig.volume.cut(k);
            Rig.due("write", rig.write(0, 7, 1), k < 6 ? Rig.STATE : "1");
            Rig.due("cells after " + k, rig.cell(3) + " " + rig.secondCell(3), (k > 0 ? 65535 : 0) + " " + (k > 1 ? 65535 : 0));
            Rig.due("entry after " + k, rig.octet(8, 8) + " " + rig.octet(8, 9), (k > 3 ? 3 : 0) + " 0");
            Rig.due("byte after " + k, rig.octet(9, 0), k > 4 ? 7 : 0);
            Rig.due("size after " + k, rig.octet(8, 10), k > 5 ? 1 : 0);
        }
    }

    private static void roomForSome() {
        Rig.sentence("(NO ROOM: the bytes for which there is room are written");
        for (int left = 1; left <= 8; left++) {
            Rig rig = withFile(32 - left);
            rig.occupyFrom(4);
            rig.open("F");
            rig.volume.seek(0, 32 - left);
            int writes = rig.writes();
            Rig.due("room for " + left, rig.write(0, 0x0102030405060708L, 8), left);
            Rig.due("POSITION and size", rig.look(10) + " " + rig.list(0, 1), "32 32");
            Rig.due("two writes", rig.writes() - writes, 2);
            Rig.due("the highest bytes", rig.octet(9, 32 - left) + " " + rig.octet(9, 31), "1 " + left);
            Rig.due("then none", rig.write(0, 1, 1), Rig.UNSUPPORTED);
            rig.volume.seek(0, 30);
            Rig.due("over old bytes", rig.write(0, 0x0A0B0C, 3) + " " + rig.octet(9, 31) + " " + rig.list(0, 1), "2 11 32");
        }
    }

    private static void roomForNone() {
        Rig.sentence("with none it is refused.)");
        for (int size : new int[] {0, 32, 64}) {
            Rig rig = withFile(size);
            rig.occupyFrom(3 + size / 32);
            rig.open("F");
            rig.volume.seek(0, size);
            int writes = rig.writes();
            for (int n = 1; n <= 8; n++) {
                Rig.due(n + " at " + size, rig.write(0, 1, n), Rig.UNSUPPORTED);
            }
            Rig.due("nothing changed", rig.writes() - writes + " " + rig.look(10) + " " + rig.list(0, 1), "0 " + size + " " + size);
        }
    }

    private static void sectorsInOrder() {
        Rig.sentence("Then a write for each sector that gets bytes, in order; then, if the size grows, a write in the entry.");
        for (int k = 0; k < 4; k++) {
            Rig rig = withFile(32);
            rig.append(0, 1);
            rig.volume.seek(0, 30);
            rig.volume.cut(k);
            Rig.due("write", rig.write(0, 0x71727374, 4), k < 3 ? Rig.STATE : "4");
            Rig.due("first sector after " + k, rig.octet(9, 30) + " " + rig.octet(9, 31), k > 0 ? "113 114" : "30 31");
            Rig.due("second sector after " + k, rig.octet(10, 0) + " " + rig.octet(10, 1), k > 1 ? "115 116" : "32 0");
            Rig.due("size after " + k, rig.octet(8, 10), k > 2 ? 34 : 33);
        }
    }

    private static void sectorsApart() {
        Rig.sentence("A WRITE changes bytes of one sector at once.");
        for (int at = 25; at <= 32; at++) {
            Rig rig = withFile(at);
            rig.fileOf("G", 32);
            Rig.due("write", rig.write(0, 0x7172737475767778L, 8), 8);
            Rig.due("a cluster of another file lies between", rig.cell(3) + " " + rig.cell(4), "5 65535");
            for (int i = 0; i < 8; i++) {
                int place = at + i;
                Rig.due("byte " + place, rig.octet(place < 32 ? 9 : 11, place % 32), 0x71 + i);
            }
            Rig.due("the other file", rig.octet(10, 0) + " " + rig.octet(10, 30) + " " + rig.octet(10, 31), "0 30 31");
            Rig.due("in front and behind", rig.octet(9, at - 1) + " " + rig.octet(11, at % 32 < 25 ? 8 : at - 24), at - 1 + " 0");
            rig.volume.seek(0, at);
            Rig.due("read again", rig.read(0, 7), (7L << 56) + 0x71727374757677L);
        }
    }

    private static void sizeGrowsOrNot() {
        Rig.sentence("then, if the size grows, a write in the entry.");
        Rig rig = withFile(20);
        rig.volume.seek(0, 12);
        Rig.due("up to the size", writesOf(rig, 8) + " " + rig.list(0, 1), "1 20");
        rig.volume.seek(0, 13);
        Rig.due("one beyond it", writesOf(rig, 8) + " " + rig.list(0, 1), "2 21");
        rig.volume.seek(0, 0);
        Rig.due("at the beginning", writesOf(rig, 1) + " " + rig.list(0, 1), "1 21");
        rig.open("F");
        rig.volume.seek(1, 21);
        rig.write(1, 1, 4);
        rig.volume.seek(0, 21);
        Rig.due("grown by another handle", writesOf(rig, 4) + " " + rig.list(0, 1), "1 25");
    }

    private static void greatestFile() {
        Rig.sentence("or the file would be greater than 1024.");
        for (int n = 1; n <= 8; n++) {
            Rig rig = withFile(1024 - n);
            int writes = rig.writes();
            if (n < 8) {
                Rig.due("1025", rig.write(0, 1, n + 1), Rig.UNSUPPORTED);
            }
            Rig.due("nothing changed", rig.writes() - writes + " " + rig.look(10) + " " + rig.list(0, 1), "0 " + (1024 - n) + " " + (1024 - n));
            Rig.due("1024", rig.write(0, 1, n) + " " + rig.list(0, 1), n + " 1024");
            Rig.due("1025", rig.write(0, 1, 1) + " " + rig.look(10) + " " + rig.free(), Rig.UNSUPPORTED + " 1024 29");
            rig.volume.seek(0, 1016);
            Rig.due("within it", rig.write(0, 1, 8), 8);
        }
    }
}
