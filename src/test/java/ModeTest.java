/** Promise 6: the modes of a lane. */
public final class ModeTest {
    public static void main(String[] args) {
        Check check = new Check();
        modesTakeSides(check);
        modesRefundTheOthers(check);
        refundsInOrder(check);
        notWhileThereAreBodies(check);
        wrongArguments(check);
        check.end();
    }

    private static void modesTakeSides(Check check) {
        int[][] due = {{0, 0}, {0, 1}, {1, 0}, {1, 1}};
        for (int mode = 0; mode < 4; mode++) {
            for (int side = 0; side < 2; side++) {
                PairedGates gates = new PairedGates();
                check.due("mode(1, " + mode + ")", gates.mode(1, mode), 0);
                check.due("token in mode " + mode + " on side " + side, gates.token(1, side, 1), due[mode][side]);
                check.due("token in the other lane", gates.token(0, side, 2), PairedGates.ACCEPTED);
            }
        }
    }

    private static void modesRefundTheOthers(Check check) {
        int[][] stay = {{2, 3}, {2, 0}, {0, 3}, {0, 0}};
        for (int mode = 0; mode < 4; mode++) {
            PairedGates gates = withTokens();
            check.due("mode(0, " + mode + ")", gates.mode(0, mode), 5 - stay[mode][0] - stay[mode][1]);
            check.due("waiting(0, 0)", gates.waiting(0, 0), stay[mode][0]);
            check.due("waiting(0, 1)", gates.waiting(0, 1), stay[mode][1]);
            check.due("waiting(1, 0)", gates.waiting(1, 0), 1);
            check.due("refunds()", gates.refunds(), 5 - stay[mode][0] - stay[mode][1]);
            check.due("mode again", gates.mode(0, mode), 0);
            check.due("mode(0, 0)", gates.mode(0, 0), 0);
            check.due("token after mode 0", gates.token(0, 1, 99), PairedGates.ACCEPTED);
        }
    }

    private static PairedGates withTokens() {
        PairedGates gates = new PairedGates();
        gates.token(0, 1, 10);
        gates.token(0, 0, 11);
        gates.token(0, 1, 12);
        gates.token(0, 0, 13);
        gates.token(0, 1, 14);
        gates.token(1, 0, 15);
        return gates;
    }

    private static void refundsInOrder(Check check) {
        PairedGates gates = withTokens();
        gates.mode(0, 3);
        int[] due = {11, 13, 10, 12, 14};
        for (int i = 0; i < due.length; i++) {
            check.due("refund(" + i + ")", gates.refund(i), due[i]);
        }
    }

    private static void notWhileThereAreBodies(Check check) {
        PairedGates gates = withTokens();
        Walk.show(gates, 0, 1);
        check.dueThrow("mode(0, 3) with a body", Check.STATE, () -> gates.mode(0, 3));
        check.dueThrow("mode(0, 0) with a body", Check.STATE, () -> gates.mode(0, 0));
        check.dueThrow("mode(0, 4) with a body", Check.ARGUMENT, () -> gates.mode(0, 4));
        check.due("waiting(0, 0) after calls that threw", gates.waiting(0, 0), 2);
        check.due("refunds() after calls that threw", gates.refunds(), 0);
        check.due("token after calls that threw", gates.token(0, 0, 50), PairedGates.ACCEPTED);
        check.due("mode of the other lane", gates.mode(1, 2), 1);
        Walk.show(gates, 0, 0);
        check.due("mode when it has left", gates.mode(0, 1), 3);
    }

    private static void wrongArguments(Check check) {
        PairedGates gates = withTokens();
        for (int bad : new int[] {-1, 2, Integer.MIN_VALUE, Integer.MAX_VALUE}) {
            check.dueThrow("mode(" + bad + ", 0)", Check.BOUNDS, () -> gates.mode(bad, 0));
            check.dueThrow("mode(" + bad + ", 4)", Check.BOUNDS, () -> gates.mode(bad, 4));
        }
        for (int bad : new int[] {-1, 4, Integer.MIN_VALUE, Integer.MAX_VALUE}) {
            check.dueThrow("mode(0, " + bad + ")", Check.ARGUMENT, () -> gates.mode(0, bad));
        }
        check.due("token after calls that threw", gates.token(0, 0, 50), PairedGates.ACCEPTED);
        check.due("refunds() after calls that threw", gates.refunds(), 0);
    }
}
