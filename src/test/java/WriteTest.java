/** Promise 10. */
public final class WriteTest {
    public static void main(String[] args) {
        bytesInOrder();
        writesOfEachCase();
        overwriting();
        wrongInputs();
        greatestFile();
        noRoom();
        someRoom();
        cutInBetween();
        withoutPower();
        Rig.end();
    }

    private static void bytesInOrder() {
        for (int n = 1; n <= 8; n++) {
            Rig rig = new Rig();
            rig.file("F");
            rig.open("F");
            Rig.due("write", rig.write(0, 0xF1F2F3F4F5F6F7F8L, n), n);
            for (int i = 0; i < 8; i++) {
                Rig.due("byte", rig.octet(9, i), i < n ? 0xF8 - n + 1 + i : 0);
            }
            Rig.due("POSITION", rig.look(10), n);
            Rig.due("size", rig.list(0, 1), n);
            Rig.due("first cluster", rig.list(0, 2), 3);
        }
    }

    private static int writesOf(Rig rig, int n) {
        int before = rig.writes();
        Rig.due("write", rig.write(0, 0, n), n);
        return rig.writes() - before;
    }

    private static void writesOfEachCase() {
        Rig rig = new Rig();
        rig.file("F");
        rig.open("F");
        Rig.due("a first cluster", writesOf(rig, 8), 3 + 1 + 1 + 1);
        Rig.due("in the cluster", writesOf(rig, 8), 1 + 1);
        rig.volume.seek(0, 0);
        Rig.due("the size stays", writesOf(rig, 8), 1);
        rig.volume.seek(0, 16);
        writesOf(rig, 8);
        writesOf(rig, 6);
        Rig.due("over the end", writesOf(rig, 8), 3 + 2 + 2 + 1);
        rig.volume.seek(0, 30);
        Rig.due("up to the end: the size stays", writesOf(rig, 8), 2);
        rig.volume.seek(0, 28);
        Rig.due("in two sectors", writesOf(rig, 8), 2);
        Rig.due("linked", rig.cell(3) + " " + rig.secondCell(3), "4 4");
        Rig.due("the last one", rig.cell(4) + " " + rig.secondCell(4), "65535 65535");
    }

    private static void overwriting() {
        Rig rig = new Rig();
        rig.file("F");
        rig.open("F");
        rig.append(0, 40);
        rig.volume.seek(0, 30);
        Rig.due("write", rig.write(0, 0xA1A2A3A4L, 4), 4);
        Rig.due("size", rig.list(0, 1), 40);
        Rig.due("bytes", rig.octet(9, 29) + " " + rig.octet(9, 30) + " " + rig.octet(9, 31) + " "
                + rig.octet(10, 0) + " " + rig.octet(10, 1) + " " + rig.octet(10, 2), "29 161 162 163 164 34");
        rig.volume.seek(0, 39);
        rig.write(0, 0x0102, 2);
        Rig.due("grown by one", rig.list(0, 1), 41);
    }

    private static void wrongInputs() {
        Rig rig = new Rig();
        rig.file("F");
        Rig.due("not open", rig.write(0, 1, 1), Rig.ARGUMENT);
        rig.open("F");
        int writes = rig.writes();
        for (int n : new int[] {Integer.MIN_VALUE, -1, 0, 9, Integer.MAX_VALUE}) {
            Rig.due("n " + n, rig.write(0, 1, n), Rig.ARGUMENT);
        }
        for (int handle : new int[] {Integer.MIN_VALUE, -1, 1, 4, Integer.MAX_VALUE}) {
            Rig.due("handle " + handle, rig.write(handle, 1, 1), Rig.ARGUMENT);
        }
        Rig.due("writes", rig.writes(), writes);
        Rig.due("POSITION stays", rig.look(10), 0);
    }

    private static void greatestFile() {
        Rig rig = new Rig();
        rig.file("F");
        rig.open("F");
        rig.append(0, 1020);
        int writes = rig.writes();
        Rig.due("1025", rig.write(0, 1, 5), Rig.UNSUPPORTED);
        Rig.due("nothing written", rig.writes() - writes + " " + rig.look(10), "0 1020");
        Rig.due("1024", rig.write(0, 1, 4), 4);
        Rig.due("size", rig.list(0, 1), 1024);
        Rig.due("1025", rig.write(0, 1, 1), Rig.UNSUPPORTED);
        Rig.due("wrong n", rig.write(0, 1, 9), Rig.ARGUMENT);
        Rig.due("clusters", rig.free(), 61 - 32);
    }

    private static void noRoom() {
        Rig rig = new Rig();
        rig.fillBut(0);
        int position = rig.look(11);
        Rig.due("at the end of a cluster", position % 32, 0);
        int writes = rig.writes();
        Rig.due("no room", rig.write(1, 7, 8), Rig.UNSUPPORTED);
        Rig.due("POSITION stays", rig.look(11), position);
        Rig.due("nothing written", rig.writes() - writes, 0);
        rig.volume.close(0);
        rig.delete("X");
        Rig.due("room again", rig.write(1, 7, 8), 8);
    }

    private static void someRoom() {
        Rig rig = new Rig();
        rig.fillBut(1);
        int position = rig.look(11);
        for (int n : new int[] {8, 8, 8, 3}) {
            rig.write(1, 7, n);
        }
        int writes = rig.writes();
        Rig.due("five of eight", rig.write(1, 0x0102030405060708L, 8), 5);
        Rig.due("writes", rig.writes() - writes, 2);
        Rig.due("POSITION", rig.look(11), position + 32);
        Rig.due("size", rig.list(1, 1), position + 32);
        rig.volume.seek(1, position + 27);
        Rig.due("the first ones", rig.read(1, 7), (5L << 56) + 0x0102030405L);
        Rig.due("then none", rig.write(1, 1, 1), Rig.UNSUPPORTED);
    }

    private static void cutInBetween() {
        for (int k = 0; k < 8; k++) {
            Rig rig = new Rig();
            rig.file("F");
            rig.open("F");
            rig.append(0, 30);
            rig.volume.cut(k);
            Rig.due("cut " + k, rig.write(0, 0xA1A2A3A4L, 4), Rig.STATE);
            Rig.due("first table", rig.cell(4), k > 0 ? 65535 : 0);
            Rig.due("second table", rig.secondCell(4), k > 1 ? 65535 : 0);
            Rig.due("linked", rig.cell(3), k > 3 ? 4 : 65535);
            Rig.due("linked in the second", rig.secondCell(3), k > 4 ? 4 : 65535);
            Rig.due("first bytes", rig.octet(9, 31), k > 5 ? 0xA2 : 0);
            Rig.due("next bytes", rig.octet(10, 0), k > 6 ? 0xA3 : 0);
            Rig.due("size", rig.octet(8, 10), 30);
            rig.volume.power();
            int fixes = new int[] {0, 2, 1, 1, 3, 2, 2, 2}[k];
            Rig.due("fixes after " + k, rig.repair(), fixes);
            Rig.due("free", rig.free(), 60);
        }
        Rig rig = new Rig();
        rig.file("F");
        rig.open("F");
        rig.append(0, 32);
        rig.volume.cut(5);
        rig.write(0, 1, 1);
        rig.volume.power();
        rig.open("F");
        rig.volume.seek(0, 32);
        int writes = rig.writes();
        Rig.due("the linked one is there", rig.write(0, 1, 1), 1);
        Rig.due("and not taken again", rig.writes() - writes, 2);
    }

    private static void withoutPower() {
        Rig rig = new Rig();
        rig.volume.poke(60, 0, 1);
        Rig.due("suspect", rig.write(0, 1, 1), Rig.STATE);
        Rig.due("suspect, wrong n", rig.write(0, 1, 0), Rig.STATE);
    }
}
