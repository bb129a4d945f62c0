/** Promise 13: who left, by kinds (step 2 of a tick). */
public final class CountTest {
    private static final Check check = new Check();

    public static void main(String[] args) {
        for (int first = 0; first < 10; first++) {
            for (int last = first; last < 10; last++) {
                leaves(0, first, last, false);
                leaves(0, first, last, true);
                leaves(1, first, last, false);
                leaves(1, first, last, true);
            }
        }
        longOnes();
        longOneThatTurned();
        countsAddUp();
        wrongArguments();
        check.end();
    }

    /** One comes in at its side, grows to the far end of an interval, shrinks to it, and leaves. */
    private static void leaves(int side, int first, int last, boolean offered) {
        PairedGates gates = new PairedGates();
        if (offered) {
            gates.token(0, side, 77);
        }
        Walk.showAll(gates, 0, side == 0 ? 1 : 512, side == 0 ? Walk.row(0, last) : Walk.row(first, 9));
        Walk.show(gates, 0, Walk.row(first, last));
        boolean token = offered && (side == 0 ? last >= 4 : first <= 5);
        String name = "side " + side + ", " + first + ".." + last + (token ? ", token" : "");
        check.due(name + ": its side", gates.body(0, 0, 2), side);
        check.due(name + ": its token", gates.body(0, 0, 3), token ? 77 : -1);
        check.due(name + ": leaves", Walk.show(gates, 0, 0), 1);
        boolean through = side == 0 ? last >= 7 : first <= 2;
        boolean turned = !through && (side == 0 ? first <= 2 : last >= 7);
        dueCounts(name, gates, through && token, through && !token, turned, !through && !turned, through);
        check.due(name + ": refunds", gates.refunds(), token && !through ? 1 : 0);
        check.due(name + ": refund(0)", gates.refund(0), token && !through ? 77 : -1);
        check.due(name + ": waiting", gates.waiting(0, side), offered && !token ? 1 : 0);
    }

    private static void dueCounts(String name, PairedGates gates, boolean... kinds) {
        for (int kind = 0; kind < kinds.length; kind++) {
            check.due(name + ": count(0, " + kind + ")", gates.count(0, kind), kinds[kind] ? 1 : 0);
            check.due(name + ": count(1, " + kind + ")", gates.count(1, kind), 0);
        }
    }

    private static void longOnes() {
        for (int beams = 1; beams <= 8; beams++) {
            for (int lane = 0; lane < 2; lane++) {
                PairedGates gates = new PairedGates();
                // Bits behind beam 9 do not count, so it walks out of the row beam by beam.
                for (int first = 0; first < 10; first++) {
                    Walk.show(gates, lane, Walk.row(first, first + beams - 1));
                }
                check.due("one of " + beams + " leaves", Walk.show(gates, lane, 0), 1);
                check.due("count(1) of length " + beams, gates.count(lane, 1), 1);
                check.due("count(4) of length " + beams, gates.count(lane, 4), beams >= 6 ? 1 : 0);
                check.due("count(4) of the other lane", gates.count(1 - lane, 4), 0);
            }
        }
    }

    private static void longOneThatTurned() {
        PairedGates gates = new PairedGates();
        Walk.showAll(gates, 0, 1, Walk.row(0, 6), 1, 0);
        check.due("count(0, 2)", gates.count(0, 2), 1);
        check.due("count(0, 4) of one that turned", gates.count(0, 4), 0);
        Walk.showAll(gates, 0, 1, Walk.row(0, 6), Walk.row(3, 6), 0);
        check.due("count(0, 3)", gates.count(0, 3), 1);
        check.due("count(0, 4) of one that is lost", gates.count(0, 4), 0);
    }

    private static void countsAddUp() {
        PairedGates gates = new PairedGates();
        for (int i = 0; i < 5; i++) {
            Walk.showAll(gates, 0, 0b1001001001, 0);
        }
        // Of side 0 at beams 0 and 3, of side 1 at beams 6 and 9.
        check.due("count(0, 2)", gates.count(0, 2), 10);
        check.due("count(0, 3)", gates.count(0, 3), 10);
        check.due("count(0, 0)", gates.count(0, 0), 0);
        check.due("count(0, 1)", gates.count(0, 1), 0);
    }

    private static void wrongArguments() {
        PairedGates gates = new PairedGates();
        Walk.showAll(gates, 0, 0b1001001001, 0);
        for (int kind : new int[] {-1, 5, 6, Integer.MIN_VALUE, Integer.MAX_VALUE}) {
            check.due("count(0, " + kind + ")", gates.count(0, kind), 0);
        }
        for (int lane : new int[] {-1, 2, Integer.MIN_VALUE, Integer.MAX_VALUE}) {
            check.dueThrow("count(" + lane + ", 0)", Check.BOUNDS, () -> gates.count(lane, 0));
            check.dueThrow("count(" + lane + ", 9)", Check.BOUNDS, () -> gates.count(lane, 9));
        }
    }
}
