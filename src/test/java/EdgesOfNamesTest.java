/** The edges that the document's paragraph of the line and of names names, a test for each sentence. */
public final class EdgesOfNamesTest {
    public static void main(String[] args) {
        twentySix();
        charactersOfTheLine();
        goodNames();
        lettersAreEqual();
        nothingElseIsEqual();
        calledByBoth();
        calledByFullParts();
        notCalledByPieces();
        oneToSix();
        lettersAndDigits();
        smallLetters();
        firstLettersAndDigits();
        atMostFour();
        noLetterAtAll();
        leastDigit();
        whatTakesADigit();
        whatTakesNone();
        noDigitLeft();
        Rig.end();
    }

    private static void twentySix() {
        Rig.sentence("THE LINE is a text of at most 26 characters");
        Rig rig = new Rig();
        for (int i = 1; i <= 26; i++) {
            Rig.due("character " + i, rig.volume.type((char) ('A' + i - 1)) + " " + rig.look(4), "true " + i);
        }
        Rig.due("one more", rig.volume.type('A') + " " + rig.look(4), "false 26");
        Rig.due("a wrong one more", rig.volume.type('/') + " " + rig.look(4), "false 26");
        Rig.due("create", rig.file(""), Rig.DONE);
        Rig.due("the first 26", rig.longName(0), "ABCDEFGHIJKLMNOPQRSTUVWXYZ");
    }

    private static void charactersOfTheLine() {
        Rig.sentence("characters 33 .. 126 without /");
        int[][] cases = {{0, 0}, {31, 0}, {32, 0}, {33, 1}, {46, 1}, {47, 0}, {48, 1}, {126, 1}, {127, 0}, {128, 0},
            {229, 0}, {255, 0}, {256 + 33, 0}, {65535, 0}};
        for (int[] one : cases) {
            Rig rig = new Rig();
            Rig.due("type " + one[0], rig.volume.type((char) one[0]), one[1] == 1);
            Rig.due("line", rig.look(4), one[1]);
        }
        Rig rig = new Rig();
        rig.type("A B/C\tD");
        Rig.due("the others are left out", rig.file("") + " " + rig.shortName(0), "done ABCD");
    }

    private static void goodNames() {
        Rig.sentence("It is a GOOD name, if it has a character and does not begin with a point.");
        String[] bad = {"", ".", "..", ".a", ".A"};
        for (String name : bad) {
            for (int kind = 1; kind <= 2; kind++) {
                Rig rig = new Rig();
                Rig.due("'" + name + "'", rig.create(name, kind), Rig.ARGUMENT);
                Rig.due("nothing made", rig.writes() + " " + rig.look(4), "0 0");
            }
        }
        String[] good = {"a.", "A.", "a.b", "-", "!.", "/A", "~"};
        for (String name : good) {
            Rig.due("'" + name + "'", new Rig().file(name), Rig.DONE);
        }
    }

    private static void lettersAreEqual() {
        Rig.sentence("Names are EQUAL without regard to capitals.");
        for (char c = 'a'; c <= 'z'; c++) {
            Rig rig = new Rig();
            String small = c + ".";
            String great = Character.toUpperCase(c) + ".";
            rig.file(small);
            Rig.due(great + " is there", rig.file(great), Rig.UNSUPPORTED);
            Rig.due("and can be opened", rig.open(great), 0);
            rig.file(Character.toString(Character.toUpperCase(c)));
            Rig.due("by a short name", rig.open(Character.toString(c)), 1);
        }
    }

    private static void nothingElseIsEqual() {
        Rig.sentence("Names are EQUAL without regard to capitals.");
        String[][] pairs = {{"@", "`"}, {"[", "{"}, {"\\", "|"}, {"]", "}"}, {"^", "~"}, {"!.", "\".."}, {"A.", "!."},
            {"a.", "b."}, {"abc.", "xbc."}, {"abc.", "abx."}, {"Z.", "[."}, {"z.", "{."}, {"0.", "P."}, {"9.", "Y."}};
        for (String[] pair : pairs) {
            Rig rig = new Rig();
            rig.file(pair[0]);
            Rig.due(pair[1] + " is not " + pair[0], rig.open(pair[1]), Rig.NO_SUCH);
            Rig.due("so it can be made", rig.file(pair[1]), Rig.DONE);
            Rig.due("beside it", rig.longName(0) + " " + rig.longName(1), pair[0] + " " + pair[1]);
        }
    }

    private static void calledByBoth() {
        Rig.sentence("An entry is CALLED by its short name .. and by its long name.");
        Rig rig = new Rig();
        rig.file("notes.txt");
        Rig.due("both", rig.open("Notes.Txt") + " " + rig.open("note~1"), "0 1");
        Rig.due("create by the short one", rig.file("NOTE~1"), Rig.UNSUPPORTED);
        Rig.due("create by the long one", rig.directory("NOTES.TXT"), Rig.UNSUPPORTED);
        rig.volume.close(0);
        rig.volume.close(1);
        Rig.due("delete by the short one", rig.delete("note~1"), Rig.DONE);
    }

    private static void calledByFullParts() {
        Rig.sentence("An entry is CALLED by its short name .. and by its long name.");
        Rig rig = new Rig();
        rig.file("AB");
        rig.file("thirteen_char");
        rig.file("CD");
        rig.file("abcdefghijklmnopqrstuvwxyz");
        Rig.due("though no 0 ends them", rig.open("Thirteen_Char") + rig.open("ABCDEFGHIJKLMNOPQRSTUVWXYZ"), "01");
        Rig.due("so they can't be made again", rig.file("THIRTEEN_CHAR") + rig.file("abcdefghijklmnopqrstuvwxyZ"),
                Rig.UNSUPPORTED.repeat(2));
        Rig.due("but others can", rig.file("thirteen_chaR.") + rig.file("abcdefghijklmnopqrstuvwxy"), Rig.DONE.repeat(2));
    }

    private static void notCalledByPieces() {
        Rig.sentence("An entry is CALLED by its short name .. and by its long name.");
        Rig rig = new Rig();
        rig.file("notes.txt");
        rig.file("ABC");
        String[] names = {"notes.tx", "notes.txtt", "otes.txt", "NOTE", "NOTE~", "NOTE~11", "NOTE~2", "AB", "ABCD", "BC", "XBC", "ABX"};
        for (String name : names) {
            Rig.due(name, rig.open(name), Rig.NO_SUCH);
        }
        Rig.due("an empty line", rig.open("") + rig.delete(""), Rig.NO_SUCH.repeat(2));
    }

    private static void oneToSix() {
        Rig.sentence("If the line, as capitals, is 1 to 6 characters A .. Z, 0 .. 9, .. that is the short name, and there is no long one.");
        String name = "A1B2C3D";
        for (int length = 1; length <= 7; length++) {
            Rig rig = new Rig();
            rig.file(name.substring(0, length));
            boolean isShort = length < 7;
            Rig.due("short of " + length, rig.shortName(0), isShort ? name.substring(0, length) : "A1B2~1");
            Rig.due("long of " + length, rig.list(0, 3), isShort ? 0 : 7);
            Rig.due("entries", rig.writes(), isShort ? 1 : 2);
        }
    }

    private static void lettersAndDigits() {
        Rig.sentence("1 to 6 characters A .. Z, 0 .. 9");
        for (String name : new String[] {"A", "Z", "0", "9", "AZ09", "999999"}) {
            Rig rig = new Rig();
            rig.file(name);
            Rig.due(name, rig.shortName(0) + " " + rig.list(0, 3), name + " 0");
        }
        for (char c : new char[] {'!', '.', ':', '@', '[', '`', '{', '~', '-', '_'}) {
            Rig rig = new Rig();
            rig.file("A" + c);
            Rig.due("A" + c, rig.shortName(0) + " " + rig.longName(0), "A~1 A" + c);
        }
    }

    private static void smallLetters() {
        Rig.sentence("and has no small letters, that is the short name");
        for (String name : new String[] {"a", "z", "Ab", "ABCDEf", "0a"}) {
            Rig rig = new Rig();
            rig.file(name);
            Rig.due(name, rig.longName(0), name);
            Rig.due("a short one with a digit", rig.shortName(0).endsWith("~1"), true);
        }
    }

    private static void firstLettersAndDigits() {
        Rig.sentence("the short one: the first letters and digits of it, as capitals, at most four, then ~");
        String[][] cases = {{"a@b[c:d`e{", "ABCD~1"}, {"-a-z-0-9-x", "AZ09~1"}, {"~~a", "A~1"}, {"z!!", "Z~1"},
            {"AbCdEf", "ABCD~1"}, {"9.8.7.6.5", "9876~1"}};
        for (String[] one : cases) {
            Rig rig = new Rig();
            rig.file(one[0]);
            Rig.due(one[0], rig.shortName(0), one[1]);
        }
    }

    private static void atMostFour() {
        Rig.sentence("the first letters and digits of it, as capitals, at most four");
        String[][] cases = {{"a", "A~1"}, {"ab", "AB~1"}, {"abc", "ABC~1"}, {"abcd", "ABCD~1"}, {"abcde", "ABCD~1"}};
        for (String[] one : cases) {
            Rig rig = new Rig();
            rig.file(one[0]);
            Rig.due(one[0], rig.shortName(0), one[1]);
        }
    }

    private static void noLetterAtAll() {
        Rig.sentence("the first letters and digits of it, .. at most four, then ~ and the least digit");
        Rig rig = new Rig();
        rig.file("!");
        rig.file("--------------------------");
        Rig.due("none", rig.shortName(0) + " " + rig.shortName(1), "~1 ~2");
        Rig.due("called so", rig.open("~2"), 0);
    }

    private static void leastDigit() {
        Rig.sentence("the least digit 1 .. 9 with which no entry of the directory has that short name");
        Rig rig = new Rig();
        for (int i = 1; i <= 9; i++) {
            rig.file("n" + i);
            Rig.due("its own letters", rig.shortName(i - 1), "N" + i + "~1");
        }
        Rig same = new Rig();
        for (int i = 1; i <= 9; i++) {
            same.file("n".repeat(i) + "nnn.");
            Rig.due("digit " + i, same.shortName(i - 1), "NNNN~" + i);
        }
        same.delete("NNNN~7");
        same.delete("NNNN~3");
        same.file("nnnn!");
        Rig.due("the least one that is left", same.open("NNNN~3") + same.open("NNNN~7"), "0" + Rig.NO_SUCH);
    }

    private static void whatTakesADigit() {
        Rig.sentence("with which no entry of the directory has that short name");
        Rig rig = new Rig();
        rig.directory("some.directory");
        rig.file("some.file");
        Rig.due("a directory's", rig.shortName(1), "SOME~2");
        Rig first = new Rig();
        first.file("AXX");
        first.volume.poke(8, 1, '~');
        first.volume.poke(8, 2, '1');
        first.repair();
        first.file("a");
        Rig.due("that of the first entry, without a part", first.shortName(0) + " " + first.shortName(1), "A~1 A~2");
        Rig far = new Rig();
        for (int i = 0; i < 5; i++) {
            far.file("F" + i);
        }
        far.file("f.");
        far.file("f..");
        Rig.due("one of a later cluster", far.shortName(5) + " " + far.shortName(6), "F~1 F~2");
    }

    private static void whatTakesNone() {
        Rig.sentence("with which no entry of the directory has that short name");
        Rig rig = new Rig();
        rig.file("long~1");
        Rig.due("its own long name", rig.shortName(0), "LONG~1");
        rig.file("abcd.");
        rig.file("xbcd.");
        rig.file("abcx.");
        rig.file("abc.");
        Rig.due("another letter", rig.shortName(1) + rig.shortName(2) + rig.shortName(3) + rig.shortName(4),
                "ABCD~1XBCD~1ABCX~1ABC~1");
        rig.delete("abcd.");
        rig.file("abcd!");
        Rig.due("a FREE entry", rig.shortName(1), "ABCD~1");
        rig.directory("D");
        rig.enter("D");
        rig.file("abcd!");
        Rig.due("one of another directory", rig.shortName(0), "ABCD~1");
        Rig named = new Rig();
        named.file("zz~2");
        named.file("zz~9x");
        Rig.due("a long name", named.shortName(0) + " " + named.shortName(1), "ZZ2~1 ZZ9X~1");
        Rig part = new Rig();
        // Its part begins with 65 ~ 1 0, which is A~1 to the eye, but a part has no short name.
        part.file("~1");
        part.file("a");
        Rig.due("a part", part.shortName(0) + " " + part.shortName(1), "1~1 A~1");
        Rig longer = new Rig();
        longer.file("AXXX");
        longer.volume.poke(8, 1, '~');
        longer.volume.poke(8, 2, '1');
        longer.repair();
        longer.file("a");
        Rig.due("a longer one", longer.shortName(0) + " " + longer.shortName(1), "A~1X A~1");
    }

    private static void noDigitLeft() {
        Rig.sentence("(without one: NO ROOM)");
        Rig rig = new Rig();
        for (int i = 1; i <= 8; i++) {
            rig.file("long" + "x".repeat(i));
        }
        rig.directory("long.ninth");
        Rig.due("the ninth one", rig.shortName(8), "LONG~9");
        int writes = rig.writes();
        Rig.due("a tenth file", rig.file("long.tenth"), Rig.UNSUPPORTED);
        Rig.due("nothing written", rig.writes() - writes, 0);
        // Whether its cluster is taken before, the document does not say.
        Rig.due("a tenth directory", rig.directory("long.tenth"), Rig.UNSUPPORTED);
        Rig.due("line", rig.look(4), 0);
        Rig.due("another stem", rig.file("lang.tenth"), Rig.DONE);
        Rig.due("a short name", rig.file("LONG"), Rig.DONE);
        rig.delete("LONG~1");
        Rig.due("with one left", rig.file("long.tenth") + " " + rig.open("LONG~1"), "done 0");
    }
}
