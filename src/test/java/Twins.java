import java.util.function.Consumer;
import java.util.function.Function;

/**
 * Two objects with the same calls, but for one that must change nothing: it is made on one of them
 * alone. An object has 512 calls, so each pair is compared in a seventh of its sectors.
 */
final class Twins {
    private static final int PAIRS = 7;
    private static final int SECTORS = 10;

    static void dueUnchanged(String what, Consumer<Rig> before, Function<Rig, String> call, String want) {
        for (int pair = 0; pair < PAIRS; pair++) {
            Rig one = new Rig();
            Rig other = new Rig();
            before.accept(one);
            before.accept(other);
            Rig.due(what, call.apply(other), want);
            String due = looks(one) + octets(one, pair * SECTORS) + later(one);
            Rig.due(what + " changes nothing", looks(other) + octets(other, pair * SECTORS) + later(other), due);
        }
    }

    private static String looks(Rig rig) {
        StringBuilder text = new StringBuilder();
        for (int what : new int[] {0, 1, 2, 3, 4, 10, 11, 12, 13}) {
            text.append(rig.look(what)).append(' ');
        }
        return text.toString();
    }

    private static String octets(Rig rig, int from) {
        StringBuilder text = new StringBuilder();
        for (int sector = from; sector < from + SECTORS; sector++) {
            text.append(rig.entry(sector, 0)).append(' ').append(rig.entry(sector, 1)).append(' ');
        }
        return text.toString();
    }

    /** What can't be looked at: whether the disk is suspect, what a handle has, the depth, the cut. */
    private static String later(Rig rig) {
        return rig.list(0, 0) + ' ' + rig.read(0, 3) + ' ' + rig.directory("L1") + ' ' + rig.write(0, 7, 1) + ' '
                + rig.file("L2") + ' ' + rig.writes() + ' ' + rig.look(0) + ' ' + rig.look(4);
    }
}
