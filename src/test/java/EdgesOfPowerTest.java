/** The edges of CUT and SUSPECT and of cut(), power() and poke() (promises 12, 13, 16), a test for each sentence. */
public final class EdgesOfPowerTest {
    public static void main(String[] args) {
        afterKWrites();
        exactlyKWrites();
        countedSinceItWasSet();
        callsWithoutWrites();
        onlyTheNextWriteIsNotMade();
        whatEnds();
        theCutIsOver();
        untilThePowerIsSwitchedOn();
        callsThatListNothing();
        suspectCalls();
        suspectUntilRepaired();
        cutRepairLeavesItSuspect();
        lookedAtFirst();
        cutBelowZero();
        cutWithoutPower();
        cutSetAnew();
        powerThatIsOn();
        pokeIsNoWrite();
        pokeWithoutPower();
        pokeEndsHandlesAndHere();
        pokeBesideTheDisk();
        everyByteValue();
        Rig.end();
    }

    private static void afterKWrites() {
        Rig.sentence("if a cut after k writes is set, and k were made since, the next one is not made");
        for (int k = 0; k <= 9; k++) {
            Rig rig = new Rig();
            rig.volume.cut(k);
            int made = 0;
            while (made <= k && rig.file("A").equals(Rig.DONE)) {
                made++;
                rig.delete("A");
            }
            Rig.due("writes of cut(" + k + ")", rig.writes(), k);
            Rig.due("power", rig.look(0), 0);
        }
    }

    private static void exactlyKWrites() {
        Rig.sentence("and k were made since, the next one is not made");
        Rig rig = new Rig();
        rig.volume.cut(4);
        Rig.due("a call of four writes", rig.directory("D"), Rig.DONE);
        Rig.due("the power is on still", rig.look(0) + " " + rig.writes(), "1 4");
        Rig.due("the next one", rig.file("F") + rig.look(0), Rig.STATE + 0);
        Rig less = new Rig();
        less.volume.cut(3);
        Rig.due("the same call, cut at its last write", less.directory("D") + less.look(0), Rig.STATE + 0);
        Rig.due("no entry", less.octet(8, 0) + " " + less.cell(3), "0 65535");
    }

    private static void countedSinceItWasSet() {
        Rig.sentence("and k were made since");
        Rig rig = new Rig();
        rig.directory("D");
        rig.volume.cut(1);
        Rig.due("writes before do not count", rig.file("A") + rig.file("B"), Rig.DONE + Rig.STATE);
        Rig.due("writes ever", rig.writes(), 5);
    }

    private static void callsWithoutWrites() {
        Rig.sentence("the next one is not made: the power is OFF");
        Rig rig = new Rig();
        rig.file("F");
        rig.directory("D");
        rig.open("F");
        rig.append(0, 3);
        rig.volume.cut(0);
        rig.volume.seek(0, 0);
        Rig.due("read", rig.read(0, 1), 1L << 56);
        Rig.due("list", rig.list(0, 0), 1);
        Rig.due("open", rig.open("F"), 1);
        Rig.due("enter", rig.enter("D") + rig.enter(""), Rig.DONE.repeat(2));
        Rig.due("what throws", rig.file("") + rig.delete("X") + rig.file("F"), Rig.ARGUMENT + Rig.NO_SUCH + Rig.UNSUPPORTED);
        Rig.due("a repair of nothing", rig.repair(), 0);
        Rig.due("the power is on", rig.look(0), 1);
        Rig.due("a write", rig.delete("F") + rig.look(0), Rig.STATE + 0);
        Rig.due("was not made", rig.octet(8, 0), (int) 'F');
    }

    private static void onlyTheNextWriteIsNotMade() {
        Rig.sentence("the next one is not made");
        Rig rig = new Rig();
        rig.file("F");
        rig.open("F");
        rig.append(0, 30);
        rig.volume.cut(6);
        Rig.due("write", rig.write(0, 0x71727374, 4), Rig.STATE);
        Rig.due("six of eight writes", rig.octet(9, 30) + " " + rig.octet(10, 0) + " " + rig.octet(8, 10), "113 0 30");
    }

    private static void whatEnds() {
        Rig.sentence("handles are not open any more, HERE is the ROOT, the line is empty, and the call throws");
        Rig rig = new Rig();
        rig.directory("D");
        rig.enter("D");
        rig.file("F");
        for (int handle = 0; handle < 4; handle++) {
            rig.open("F");
        }
        rig.type("LINE");
        rig.volume.cut(0);
        Rig.due("throws", rig.write(0, 1, 1), Rig.STATE);
        Rig.due("handles", rig.look(10) + rig.look(11) + rig.look(12) + rig.look(13), -4);
        Rig.due("HERE and line", rig.look(3) + " " + rig.look(4), "2 0");
        rig.volume.power();
        Rig.due("nor are they with power again", rig.look(10) + rig.look(11) + rig.look(12) + rig.look(13), -4);
        Rig.due("HERE is the ROOT", rig.look(3) + " " + rig.list(0, 10), "2 68");
        Rig.due("its depth, too", rig.enter("D") + rig.directory("E") + rig.enter("E") + rig.directory("E") + rig.enter("E")
                + rig.directory("E") + rig.enter("E") + rig.directory("E"), Rig.DONE.repeat(7) + Rig.UNSUPPORTED);
    }

    private static void theCutIsOver() {
        Rig.sentence("all that is under way ends (the cut is over)");
        Rig rig = new Rig();
        rig.volume.cut(2);
        Rig.due("cut", rig.directory("D"), Rig.STATE);
        rig.volume.power();
        for (int i = 0; i < 6; i++) {
            Rig.due("goes on", rig.file("F" + i), Rig.DONE);
        }
    }

    private static String callsThatThrow(Rig rig) {
        return rig.file("A") + rig.delete("") + rig.enter("") + rig.open("") + rig.read(0, 1) + rig.write(0, 1, 1)
                + rig.list(0, 0);
    }

    private static void untilThePowerIsSwitchedOn() {
        Rig.sentence("So does every call that lists it until the power is switched on");
        Rig rig = new Rig();
        rig.file("F");
        rig.volume.cut(0);
        rig.delete("F");
        int writes = rig.writes();
        Rig.due("all of them", callsThatThrow(rig) + rig.repair(), Rig.STATE.repeat(8));
        Rig.due("nothing written", rig.writes() - writes, 0);
        rig.volume.power();
        Rig.due("none then", rig.enter("X") + rig.list(0, 10) + rig.read(0, 1) + rig.open("F") + rig.repair(),
                Rig.NO_SUCH + 70 + Rig.ARGUMENT + "0" + "0");
    }

    private static void callsThatListNothing() {
        Rig.sentence("So does every call that lists it");
        Rig rig = new Rig();
        rig.volume.cut(0);
        rig.file("F");
        Rig.due("type", rig.volume.type('A') + " " + rig.look(4), "true 1");
        Rig.due("type a wrong one", rig.volume.type('/') + " " + rig.look(4), "false 1");
        Rig.due("close and seek", rig.volume.close(0) + " " + rig.volume.seek(0, 0), "false false");
        Rig.due("octet and look", rig.octet(0, 0) + " " + rig.look(0) + " " + rig.look(2) + " " + rig.look(99), "255 0 61 -1");
        Rig.due("cut and poke", rig.volume.cut(1) + " " + rig.volume.poke(60, 0, 1), "false true");
    }

    private static void suspectCalls() {
        Rig.sentence("and every one but repair() if the disk is SUSPECT");
        Rig rig = new Rig();
        rig.file("F");
        rig.volume.poke(60, 0, 1);
        int writes = rig.writes();
        Rig.due("all but repair()", callsThatThrow(rig), Rig.STATE.repeat(7));
        Rig.due("nothing written", rig.writes() - writes + " " + rig.list(0, 0), "0 " + Rig.STATE);
        Rig.due("the others work", rig.volume.type('B') + " " + rig.volume.cut(9) + " " + rig.volume.power() + " "
                + rig.octet(8, 0) + " " + rig.look(0) + " " + rig.volume.close(0), "true true false 70 1 false");
        Rig.due("repair()", rig.repair(), 0);
        Rig.due("then all do", rig.file("") + rig.list(1, 10) + rig.open("F"), Rig.DONE + "650");
    }

    private static void suspectUntilRepaired() {
        Rig.sentence("from a poke() until a REPAIR has been done.");
        Rig rig = new Rig();
        rig.file("F");
        rig.volume.poke(70, 0, 1);
        Rig.due("not by a refused one", rig.list(0, 10), 70);
        rig.volume.poke(8, 0, 'F');
        Rig.due("by the same byte, too", rig.list(0, 10), Rig.STATE);
        rig.repair();
        Rig.due("no more", rig.list(0, 10), 70);
        rig.volume.poke(60, 0, 1);
        rig.volume.poke(60, 0, 0);
        Rig.due("by two that change nothing", rig.list(0, 10), Rig.STATE);
        Rig.due("one repair is enough", rig.repair() + rig.list(0, 10), "070");
    }

    private static void cutRepairLeavesItSuspect() {
        Rig.sentence("until a REPAIR has been done.");
        for (int k = 0; k < 3; k++) {
            Rig rig = new Rig();
            rig.pokeBothCells(40, 1);
            rig.type("AB");
            rig.volume.cut(k);
            Rig.due("cut after " + k, rig.repair() + " " + rig.look(0) + " " + rig.look(4), Rig.STATE + " 0 0");
            rig.volume.power();
            Rig.due("suspect still", rig.list(0, 0) + rig.file("A"), Rig.STATE.repeat(2));
            Rig.due("till one is done", Integer.parseInt(rig.repair()) > 0, true);
            Rig.due("sound", rig.list(0, 0) + " " + rig.free(), Rig.NO_SUCH + " 61");
        }
    }

    private static void lookedAtFirst() {
        Rig.sentence("(This is looked at first.)");
        Rig suspect = new Rig();
        suspect.volume.poke(60, 0, 1);
        Rig off = new Rig();
        off.volume.cut(0);
        off.file("A");
        for (Rig rig : new Rig[] {suspect, off}) {
            Rig.due("create", rig.create("", 0) + rig.create(".", 1) + rig.create("", 99), Rig.STATE.repeat(3));
            Rig.due("delete, enter, open", rig.delete("X") + rig.enter("Y") + rig.open("Z"), Rig.STATE.repeat(3));
            Rig.due("read", rig.read(-1, 1) + rig.read(0, 0) + rig.read(9, 9), Rig.STATE.repeat(3));
            Rig.due("write", rig.write(-1, 1, 1) + rig.write(0, 1, 0) + rig.write(9, 1, 9), Rig.STATE.repeat(3));
            Rig.due("list", rig.list(-1, 0) + rig.list(0, -1) + rig.list(9, 99), Rig.STATE.repeat(3));
            Rig.due("line", rig.look(4), 4);
        }
    }

    private static void cutBelowZero() {
        Rig.sentence("Sets the cut: true; false (refused) if k is below 0");
        Rig rig = new Rig();
        Rig.due("refused", rig.volume.cut(-1) + " " + rig.volume.cut(Integer.MIN_VALUE), "false false");
        Rig.due("none is set", rig.file("A") + rig.look(0), Rig.DONE + 1);
        Rig.due("0 is not below 0", rig.volume.cut(0) + rig.file("B"), true + Rig.STATE);
        rig.volume.power();
        Rig.due("the greatest", rig.volume.cut(Integer.MAX_VALUE) + rig.file("B"), true + Rig.DONE);
    }

    private static void cutWithoutPower() {
        Rig.sentence("or there is no power.");
        Rig rig = new Rig();
        rig.volume.cut(0);
        rig.file("A");
        Rig.due("refused", rig.volume.cut(0) + " " + rig.volume.cut(7), "false false");
        rig.volume.power();
        Rig.due("none is set", rig.file("A") + rig.file("B"), Rig.DONE.repeat(2));
        Rig.due("with power", rig.volume.cut(0), true);
    }

    private static void cutSetAnew() {
        Rig.sentence("Sets the cut: true");
        Rig rig = new Rig();
        rig.volume.cut(0);
        Rig.due("later", rig.volume.cut(2) + rig.file("A") + rig.file("B"), true + Rig.DONE.repeat(2));
        rig.volume.cut(9);
        Rig.due("earlier", rig.volume.cut(0) + rig.delete("A"), true + Rig.STATE);
        rig.volume.power();
        rig.volume.cut(1);
        rig.volume.cut(-1);
        Rig.due("not by a refused one", rig.delete("A") + rig.delete("B"), Rig.DONE + Rig.STATE);
    }

    private static void powerThatIsOn() {
        Rig.sentence("Switches the power on: true; false (refused) if it is on.");
        Rig rig = new Rig();
        rig.file("F");
        rig.open("F");
        rig.type("A");
        Rig.due("on", rig.volume.power(), false);
        Rig.due("nothing changed", rig.look(0) + " " + rig.look(10) + " " + rig.look(4), "1 0 1");
        rig.volume.cut(1);
        Rig.due("on, with a cut set", rig.volume.power(), false);
        Rig.due("which stays", rig.file("") + rig.file("B"), Rig.DONE + Rig.STATE);
        Rig.due("off", rig.look(0) + " " + rig.volume.power() + " " + rig.look(0), "0 true 1");
        Rig.due("on again", rig.volume.power(), false);
    }

    private static void pokeIsNoWrite() {
        Rig.sentence("Changes a byte of a sector (no write is counted");
        Rig rig = new Rig();
        rig.volume.cut(0);
        Rig.due("not cut", rig.volume.poke(60, 5, 9) + " " + rig.octet(60, 5) + " " + rig.writes() + " " + rig.look(0), "true 9 0 1");
        Rig.due("only that byte", rig.octet(60, 4) + " " + rig.octet(60, 6), "0 0");
        rig.repair();
        Rig.due("the cut stays", rig.file("A"), Rig.STATE);
    }

    private static void pokeWithoutPower() {
        Rig.sentence("also without power): the disk is SUSPECT then");
        Rig rig = new Rig();
        rig.volume.cut(0);
        rig.file("A");
        Rig.due("poke", rig.volume.poke(60, 5, 9) + " " + rig.octet(60, 5) + " " + rig.look(0), "true 9 0");
        rig.volume.power();
        Rig.due("suspect", rig.list(0, 0), Rig.STATE);
        Rig.due("repaired", rig.repair() + rig.list(0, 0), 0 + Rig.NO_SUCH);
    }

    private static void pokeEndsHandlesAndHere() {
        Rig.sentence("handles are not open any more, HERE is the ROOT: true");
        Rig rig = new Rig();
        rig.directory("D");
        rig.enter("D");
        rig.file("F");
        for (int handle = 0; handle < 4; handle++) {
            rig.open("F");
        }
        rig.type("AB");
        Rig.due("poke", rig.volume.poke(60, 0, 0), true);
        Rig.due("line", rig.look(4), 2);
        Rig.due("handles", rig.look(10) + rig.look(11) + rig.look(12) + rig.look(13), -4);
        Rig.due("HERE", rig.look(3), 2);
        rig.repair();
        rig.file("");
        Rig.due("its depth, too", rig.enter("D") + rig.directory("E") + rig.enter("E") + rig.directory("E") + rig.enter("E")
                + rig.directory("E") + rig.enter("E") + rig.directory("E"), Rig.DONE.repeat(7) + Rig.UNSUPPORTED);
    }

    private static void pokeBesideTheDisk() {
        Rig.sentence("false (refused) if there is none such.");
        Rig rig = new Rig();
        rig.directory("D");
        rig.enter("D");
        rig.file("F");
        rig.open("F");
        int[][] places = {{-1, 0}, {70, 0}, {0, -1}, {0, 32}, {69, 32}, {70, 31}, {Integer.MIN_VALUE, 0},
            {Integer.MAX_VALUE, 31}, {0, Integer.MIN_VALUE}, {69, Integer.MAX_VALUE}, {1 << 27, 0}};
        for (int[] place : places) {
            Rig.due("poke " + place[0] + " " + place[1], rig.volume.poke(place[0], place[1], 7), false);
        }
        Rig.due("nothing changed", rig.look(10) + " " + rig.look(3) + " " + rig.list(0, 10), "0 3 70");
    }

    private static void everyByteValue() {
        Rig.sentence("Changes a byte of a sector");
        Rig rig = new Rig();
        for (int value = 0; value < 256; value += 5) {
            Rig.due("poke", rig.volume.poke(33, 17, value) + " " + rig.octet(33, 17), "true " + value);
        }
    }
}
