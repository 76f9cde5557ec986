/** The edges that the document's paragraphs of entries and parts name, a test for each sentence. */
public final class EdgesOfEntriesTest {
    private static final String LETTERS = "abcdefghijklmnopqrstuvwxyz";

    public static void main(String[] args) {
        twoEntriesACluster();
        rootBegins();
        freeEntries();
        notFreeEntries();
        partsAreNotListed();
        filledUpWithBlanks();
        firstClusterOfNone();
        othersAreZero();
        numbersOfParts();
        thirteenCharacters();
        sumWrapsAround();
        wrongNumbers();
        wrongOrder();
        wrongSums();
        notDirectlyInFront();
        otherKindsTellNothing();
        oneOfTwoIsMissing();
        onePartTooMany();
        upToTheFirstZero();
        upToTheEndOfTheParts();
        shortNameEnds();
        longDirectory();
        Rig.end();
    }

    private static void twoEntriesACluster() {
        Rig.sentence("A DIRECTORY is a chain of clusters with two ENTRIES of 16 bytes each");
        Rig rig = new Rig();
        rig.file("A");
        rig.file("B");
        Rig.due("one cluster", rig.octet(8, 0) + " " + rig.octet(8, 16) + " " + rig.free(), "65 66 61");
        rig.file("C");
        Rig.due("a second one", rig.octet(9, 0) + " " + rig.cell(2) + " " + rig.free(), "67 3 60");
        rig.file("D");
        Rig.due("is full then, too", rig.octet(9, 16) + " " + rig.free(), "68 60");
    }

    private static void rootBegins() {
        Rig.sentence("the ROOT's begins with cluster 2.");
        Rig rig = new Rig();
        Rig.due("HERE", rig.look(3), 2);
        rig.file("A");
        Rig.due("its sector", rig.octet(8, 0), 65);
    }

    private static void freeEntries() {
        Rig.sentence("Byte 0 of an entry: 0 or 229: it is FREE.");
        for (int mark : new int[] {0, 229}) {
            Rig rig = new Rig();
            rig.file("A");
            rig.file("B");
            rig.volume.poke(8, 0, mark);
            Rig.due("nothing to fix", rig.repair(), 0);
            Rig.due("not there", rig.list(0, 10) + " " + rig.list(1, 10), "66 " + Rig.NO_SUCH);
            Rig.due("not called", rig.open("A"), Rig.NO_SUCH);
            rig.file("C");
            Rig.due("used again", rig.octet(8, 0) + " " + rig.free(), "67 61");
        }
    }

    private static void notFreeEntries() {
        Rig.sentence("Byte 0 of an entry: 0 or 229: it is FREE.");
        for (int mark : new int[] {1, 228, 230, 255}) {
            Rig rig = new Rig();
            rig.file("A");
            rig.file("B");
            rig.volume.poke(8, 0, mark);
            Rig.due("nothing to fix", rig.repair(), 0);
            Rig.due("still there", rig.list(0, 0) + " " + rig.list(1, 10), "1 66");
            rig.file("C");
            Rig.due("not used again", rig.octet(8, 0) + " " + rig.free(), mark + " 60");
        }
    }

    private static void partsAreNotListed() {
        Rig.sentence("Byte 6: its KIND, 1 file, 2 directory, 15 a PART.");
        Rig rig = new Rig();
        rig.file("fourteen_chars");
        rig.directory("dir");
        Rig.due("kinds on the disk", rig.octet(8, 6) + " " + rig.octet(8, 22) + " " + rig.octet(9, 6), "15 15 1");
        Rig.due("kinds listed", rig.list(0, 0) + " " + rig.list(1, 0) + " " + rig.list(2, 0), "1 2 " + Rig.NO_SUCH);
    }

    private static void filledUpWithBlanks() {
        Rig.sentence("bytes 0 .. 5 the SHORT name (A .. Z, 0 .. 9, ~, filled up with 32)");
        for (int length = 1; length <= 6; length++) {
            Rig rig = new Rig();
            rig.file("AZ09MN".substring(0, length));
            StringBuilder want = new StringBuilder();
            for (int i = 0; i < 6; i++) {
                want.append(i < length ? (int) "AZ09MN".charAt(i) : 32).append(' ');
            }
            Rig.due("length " + length, rig.entry(8, 0), want + "1 0 0 0 0 0 0 0 0 0");
            Rig.due("list", rig.shortName(0), "AZ09MN".substring(0, length));
        }
    }

    private static void firstClusterOfNone() {
        Rig.sentence("8 and 9 the first cluster (0: none), 10 and 11 the size (of a directory 0)");
        Rig rig = new Rig();
        rig.file("A");
        rig.directory("D");
        Rig.due("a file without a cluster", rig.list(0, 2) + " " + rig.list(0, 1), "0 0");
        Rig.due("a directory", rig.list(1, 2) + " " + rig.list(1, 1), "3 0");
        Rig.due("deleting frees nothing", rig.delete("A") + " " + rig.free(), Rig.DONE + " 60");
        rig.enter("D");
        for (String name : new String[] {"A", "B", "C"}) {
            rig.file(name);
        }
        rig.enter("");
        Rig.due("a directory that grew", rig.list(0, 2) + " " + rig.list(0, 1), "3 0");
    }

    private static void othersAreZero() {
        Rig.sentence("7: 0, 8 and 9 the first cluster (0: none), .. others 0.");
        Rig rig = new Rig();
        rig.file("fourteen_chars");
        rig.delete("fourteen_chars");
        rig.file("A");
        Rig.due("over a part", rig.entry(8, 0), "65 32 32 32 32 32 1 0 0 0 0 0 0 0 0 0");
        rig.directory("B");
        Rig.due("over another part", rig.entry(8, 1), "66 32 32 32 32 32 2 0 4 0 0 0 0 0 0 0");
    }

    private static void numbersOfParts() {
        Rig.sentence("byte 0 its number (1, 2; and 64 more for that with the greatest number, which stands first)");
        for (int length : new int[] {1, 13, 14, 26}) {
            Rig rig = new Rig();
            rig.file(LETTERS.substring(0, length));
            boolean two = length > 13;
            Rig.due("first one of " + length, rig.octet(8, 0), two ? 66 : 65);
            Rig.due("behind it", rig.octet(8, 16), two ? 1 : 65);
            Rig.due("the entry", rig.octet(two ? 9 : 8, two ? 0 : 16), 65);
        }
    }

    private static void thirteenCharacters() {
        Rig.sentence("bytes 1 .. 5 and 8 .. 15 thirteen characters of the long name (part 1 the first ones; 0 behind its end)");
        for (int length : new int[] {1, 5, 6, 12, 13, 14, 18, 19, 25, 26}) {
            Rig rig = new Rig();
            String name = LETTERS.substring(0, length);
            rig.file(name);
            boolean two = length > 13;
            Rig.due("part 1 of " + length, charactersOf(rig.entry(8, two ? 1 : 0)), padded(name, 0));
            if (two) {
                Rig.due("part 2 of " + length, charactersOf(rig.entry(8, 0)), padded(name, 13));
            }
        }
    }

    private static String charactersOf(String entry) {
        String[] bytes = entry.split(" ");
        StringBuilder text = new StringBuilder();
        for (int i = 1; i < 16; i++) {
            text.append(i == 6 || i == 7 ? "" : bytes[i] + " ");
        }
        return text.toString();
    }

    private static String padded(String name, int from) {
        StringBuilder text = new StringBuilder();
        for (int i = from; i < from + 13; i++) {
            text.append(i < name.length() ? (int) name.charAt(i) : 0).append(' ');
        }
        return text.toString();
    }

    private static void sumWrapsAround() {
        Rig.sentence("7 the SUM of the short name: .. s = (s * 2 + s / 128 + it) & 255.");
        // AR~1 goes through 127, D8~1 through 255 and 128, 4~1 through 254, A~1 through 0.
        String[][] cases = {{"ar", "92"}, {"d8", "33"}, {"4.", "212"}, {"a", "106"}, {"!", "176"}, {"four!", "213"}};
        for (String[] one : cases) {
            Rig rig = new Rig();
            rig.file(one[0]);
            Rig.due("sum of " + rig.shortName(0), rig.octet(8, 7), one[1]);
            Rig.due("told", rig.longName(0), one[0]);
        }
    }

    /** What a poke into the parts of a file makes of its long name, and how many entries a repair frees. */
    private static void dueUntold(String name, int k, int value, int fixes) {
        Rig rig = new Rig();
        rig.file(name);
        rig.volume.poke(8, k, value);
        Rig.due(name + " with " + value + " at " + k + ", fixes", rig.repair(), fixes);
        Rig.due("no long name", rig.list(0, 3) + " " + rig.list(0, 20), "0 -1");
        Rig.due("not called so", rig.open(name), Rig.NO_SUCH);
        Rig.due("the short one", rig.open("FOUR~1"), 0);
    }

    private static void wrongNumbers() {
        Rig.sentence("The long name of an entry is told by one or two parts .. with the right numbers, .. else it has none.");
        for (int number : new int[] {1, 2, 64, 66, 67, 129, 193}) {
            dueUntold("four", 0, number, 1);
        }
        for (int number : new int[] {1, 2, 64, 65, 67, 130}) {
            dueUntold("fourteen_chars", 0, number, 2);
        }
        for (int number : new int[] {2, 3, 64, 66, 67}) {
            dueUntold("fourteen_chars", 16, number, 2);
        }
    }

    private static void wrongOrder() {
        Rig.sentence("with the right numbers, in the right order");
        Rig rig = new Rig();
        rig.file("fourteen_chars");
        rig.volume.poke(8, 0, 1);
        rig.volume.poke(8, 16, 66);
        Rig.due("both are freed", rig.repair(), 2);
        Rig.due("no long name", rig.list(0, 3) + " " + rig.octet(8, 0) + " " + rig.octet(8, 16), "0 229 229");
    }

    private static void wrongSums() {
        Rig.sentence("and with its SUM; else it has none.");
        for (int sum : new int[] {212, 214, 0, 213 - 128}) {
            dueUntold("four", 7, sum, 1);
            dueUntold("fourteen_chars", 7, sum, 2);
            dueUntold("fourteen_chars", 23, sum, 2);
        }
        Rig rig = new Rig();
        rig.file("four");
        rig.volume.poke(8, 16, 'G');
        Rig.due("another short name", rig.repair() + " " + rig.list(0, 3) + " " + rig.shortName(0), "1 0 GOUR~1");
    }

    private static void notDirectlyInFront() {
        Rig.sentence("told by one or two parts directly in front of it");
        for (int mark : new int[] {0, 229}) {
            dueUntold("fourteen_chars", 16, mark, 1);
        }
        Rig rig = new Rig();
        rig.file("four");
        rig.file("five");
        // FOUR~1 becomes a part that tells nothing, so FIVE~1 is the first entry with a name.
        rig.volume.poke(8, 22, 15);
        Rig.due("a part in front of a part", rig.repair(), 2);
        Rig.due("the other name stays", rig.longName(0), "five");
    }

    private static void otherKindsTellNothing() {
        Rig.sentence("Byte 6: its KIND, .. 15 a PART.");
        for (int kind : new int[] {0, 3, 14, 16, 255}) {
            dueUntold("four", 6, kind, 1);
            dueUntold("fourteen_chars", 6, kind, 2);
            dueUntold("fourteen_chars", 22, kind, 2);
        }
    }

    private static void oneOfTwoIsMissing() {
        Rig.sentence("told by one or two parts .. else it has none.");
        for (int mark : new int[] {0, 229}) {
            dueUntold("four", 0, mark, 0);
            dueUntold("fourteen_chars", 0, mark, 1);
        }
        Rig rig = new Rig();
        rig.file("fourteen_chars");
        rig.volume.cut(1);
        rig.delete("four~1");
        rig.volume.power();
        Rig.due("one part is there", rig.freedIn(8), 1);
        Rig.due("but tells nothing", rig.list(0, 3) + " " + rig.list(0, 20), "0 -1");
        Rig.due("nor is it called so", rig.open("fourteen_chars"), Rig.NO_SUCH);
    }

    private static void onePartTooMany() {
        Rig.sentence("told by one or two parts directly in front of it with the right numbers");
        Rig rig = new Rig();
        rig.file("fourteen_chars");
        rig.volume.poke(8, 16, 65);
        Rig.due("65 alone tells", rig.repair() + " " + rig.longName(0), "1 fourteen_char");
        Rig.due("the other one is freed", rig.octet(8, 0), 229);
        Rig three = new Rig();
        three.file("A");
        three.file("fourteen_chars");
        three.volume.poke(8, 0, 67);
        three.volume.poke(8, 6, 15);
        three.volume.poke(8, 7, 213);
        Rig.due("a third one is freed", three.repair() + " " + three.octet(8, 0), "1 229");
        Rig.due("two tell", three.longName(0), "fourteen_chars");
    }

    private static void upToTheFirstZero() {
        Rig.sentence("A LONG NAME is what its parts tell up to the first 0.");
        int[] places = {1, 2, 3, 4, 5, 8, 9, 10, 11, 12, 13, 14, 15};
        for (int i = 0; i < 13; i++) {
            Rig rig = new Rig();
            rig.file("thirteen_char");
            rig.volume.poke(8, places[i], 0);
            rig.repair();
            Rig.due("0 at " + i, rig.longName(0) + " " + rig.list(0, 3), "thirteen_char".substring(0, i) + " " + i);
            Rig.due("behind the end", rig.list(0, 20 + i) + " " + rig.list(0, 32), "-1 -1");
            Rig two = new Rig();
            two.file("fourteen_chars");
            two.volume.poke(8, 16 + places[i], 0);
            two.repair();
            Rig.due("though part 2 tells more", two.longName(0) + two.list(0, 3), "fourteen_char".substring(0, i) + i);
        }
    }

    private static void upToTheEndOfTheParts() {
        Rig.sentence("A LONG NAME is what its parts tell up to the first 0.");
        for (int length : new int[] {13, 26}) {
            Rig rig = new Rig();
            String name = LETTERS.substring(0, length);
            rig.file(name);
            Rig.due("no 0 at all", rig.list(0, 3) + " " + rig.longName(0), length + " " + name);
            Rig.due("the last one", rig.list(0, 19 + length), (int) name.charAt(length - 1));
        }
        Rig rig = new Rig();
        rig.file("fourteen_chars");
        rig.volume.poke(8, 1, 0);
        rig.repair();
        Rig.due("two parts, the second one empty", rig.longName(0) + rig.list(0, 3), "fourteen_char13");
    }

    private static void shortNameEnds() {
        Rig.sentence("An entry is CALLED by its short name (up to the first byte that is 32 or 0)");
        for (int end : new int[] {0, 32}) {
            Rig rig = new Rig();
            rig.file("ABCDEF");
            rig.volume.poke(8, 2, end);
            Rig.due("nothing to fix", rig.repair(), 0);
            Rig.due("all six", rig.open("ABCDEF"), Rig.NO_SUCH);
            Rig.due("up to there", rig.open("AB"), 0);
            Rig.due("listed", rig.list(0, 10) + " " + rig.list(0, 11), "65 66");
        }
        Rig none = new Rig();
        none.file("A");
        none.volume.poke(8, 0, 32);
        Rig.due("nothing in front of it", none.repair() + " " + none.list(0, 0) + " " + none.list(0, 10), "0 1 -1");
        for (int near : new int[] {1, 31, 33}) {
            Rig rig = new Rig();
            rig.file("ABCDEF");
            rig.volume.poke(8, 2, near);
            rig.repair();
            Rig.due("not up to a " + near, rig.open("AB") + " " + rig.list(0, 12), Rig.NO_SUCH + " " + near);
        }
    }

    private static void longDirectory() {
        Rig.sentence("A DIRECTORY is a chain of clusters");
        Rig rig = new Rig();
        rig.file("A");
        for (int cluster = 2; cluster < 63; cluster++) {
            rig.volume.poke(cluster / 16, cluster % 16 * 2, cluster + 1);
            rig.volume.poke(cluster / 16, cluster % 16 * 2 + 1, 0);
        }
        rig.pokeCell(63, 65535);
        Rig.due("of all clusters", rig.repair() + " " + rig.free(), "62 0");
        rig.volume.poke(69, 16, 'Z');
        rig.volume.poke(69, 22, 1);
        Rig.due("an entry at its end", rig.repair() + " " + rig.list(1, 10), "0 90");
        Rig.due("called", rig.open("Z"), 0);
        Rig.due("deleted", rig.volume.close(0) + " " + rig.delete("Z") + " " + rig.octet(69, 16), "true done 229");
        Rig.due("a file in it", rig.file("B") + " " + rig.octet(8, 16), "done 66");
    }
}
