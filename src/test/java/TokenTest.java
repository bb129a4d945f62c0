/** Promises 4, 5, 11, 12 and 17: tokens that are offered, wait and are cancelled. */
public final class TokenTest {
    public static void main(String[] args) {
        Check check = new Check();
        waitInOrder(check);
        fullAtSix(check);
        repeatedForThreeHundredTicks(check);
        repeatedWhateverBecameOfIt(check);
        refusedIsNotAccepted(check);
        firstReasonWins(check);
        expiresAfterTwoHundred(check);
        expiresOneByOne(check);
        cancelTakesTheOldest(check);
        wrongArguments(check);
        check.end();
    }

    private static void waitInOrder(Check check) {
        PairedGates gates = new PairedGates();
        check.due("token(0, 0, 0)", gates.token(0, 0, 0), PairedGates.ACCEPTED);
        check.due("token(0, 0, max)", gates.token(0, 0, Integer.MAX_VALUE), PairedGates.ACCEPTED);
        check.due("token(0, 1, 3)", gates.token(0, 1, 3), PairedGates.ACCEPTED);
        check.due("token(1, 1, 4)", gates.token(1, 1, 4), PairedGates.ACCEPTED);
        check.due("waiting(0, 0)", gates.waiting(0, 0), 2);
        check.due("waiting(0, 1)", gates.waiting(0, 1), 1);
        check.due("waiting(1, 0)", gates.waiting(1, 0), 0);
        check.due("waiting(1, 1)", gates.waiting(1, 1), 1);
        check.due("waits(0, 0, 0)", gates.waits(0, 0, 0), 0);
        check.due("waits(0, 0, 1)", gates.waits(0, 0, 1), Integer.MAX_VALUE);
        check.due("waits(0, 0, 2)", gates.waits(0, 0, 2), PairedGates.NONE);
        check.due("waits(0, 0, -1)", gates.waits(0, 0, -1), PairedGates.NONE);
        check.due("waits(0, 0, 6)", gates.waits(0, 0, 6), PairedGates.NONE);
        check.due("waits(0, 0, max)", gates.waits(0, 0, Integer.MAX_VALUE), PairedGates.NONE);
        check.due("waits(0, 0, min)", gates.waits(0, 0, Integer.MIN_VALUE), PairedGates.NONE);
        check.due("waits(0, 1, 0)", gates.waits(0, 1, 0), 3);
        check.due("waits(1, 1, 0)", gates.waits(1, 1, 0), 4);
        check.due("accepted()", gates.accepted(), 4);
    }

    private static void fullAtSix(Check check) {
        PairedGates gates = new PairedGates();
        for (int i = 0; i < 6; i++) {
            check.due("token " + i, gates.token(1, 0, i), PairedGates.ACCEPTED);
        }
        check.due("a seventh", gates.token(1, 0, 6), PairedGates.FULL);
        check.due("one on the other side", gates.token(1, 1, 6), PairedGates.ACCEPTED);
        check.due("one in the other lane", gates.token(0, 0, 7), PairedGates.ACCEPTED);
        gates.cancel(1, 0);
        check.due("one more behind a cancel", gates.token(1, 0, 8), PairedGates.ACCEPTED);
        check.due("waits(1, 0, 5)", gates.waits(1, 0, 5), 8);
        check.due("accepted()", gates.accepted(), 9);
    }

    private static void repeatedForThreeHundredTicks(Check check) {
        PairedGates gates = new PairedGates();
        gates.ticks(3);
        gates.token(0, 0, 5);
        check.due("the same account at once", gates.token(0, 0, 5), PairedGates.REPEATED);
        check.due("on the other side", gates.token(0, 1, 5), PairedGates.REPEATED);
        check.due("in the other lane", gates.token(1, 0, 5), PairedGates.REPEATED);
        gates.ticks(299);
        check.due("299 ticks later", gates.token(1, 1, 5), PairedGates.REPEATED);
        gates.ticks(1);
        check.due("300 ticks later", gates.token(1, 1, 5), PairedGates.ACCEPTED);
        gates.ticks(299);
        check.due("299 ticks after the second", gates.token(0, 0, 5), PairedGates.REPEATED);
        check.due("accepted()", gates.accepted(), 2);
    }

    private static void repeatedWhateverBecameOfIt(Check check) {
        PairedGates gates = new PairedGates();
        gates.token(0, 0, 5);
        gates.token(0, 0, 6);
        gates.token(1, 1, 7);
        gates.cancel(0, 0);
        check.due("a cancelled one", gates.token(0, 0, 5), PairedGates.REPEATED);
        gates.mode(1, 3);
        gates.mode(1, 0);
        check.due("one that a mode refunded", gates.token(1, 1, 7), PairedGates.REPEATED);
        Walk.show(gates, 0, Walk.row(0, 4));
        check.due("body(0, 0, 3)", gates.body(0, 0, 3), 6);
        check.due("one that a body has", gates.token(1, 0, 6), PairedGates.REPEATED);
        gates.ticks(1);
        gates.token(0, 0, 8);
        check.due("an old one behind a newer one", gates.token(0, 0, 5), PairedGates.REPEATED);
    }

    private static void refusedIsNotAccepted(Check check) {
        PairedGates gates = new PairedGates();
        gates.mode(0, 3);
        check.due("a closed lane", gates.token(0, 0, 1), PairedGates.CLOSED);
        check.due("waiting(0, 0)", gates.waiting(0, 0), 0);
        check.due("accepted()", gates.accepted(), 0);
        check.due("the other lane", gates.token(1, 0, 1), PairedGates.ACCEPTED);
        gates.ticks(150);
        check.due("repeated", gates.token(1, 0, 1), PairedGates.REPEATED);
        gates.ticks(150);
        check.due("the repeated one did not count", gates.token(1, 0, 1), PairedGates.ACCEPTED);
    }

    private static void firstReasonWins(Check check) {
        PairedGates gates = new PairedGates();
        for (int i = 0; i < 6; i++) {
            gates.token(0, 0, i);
        }
        check.due("full and repeated", gates.token(0, 0, 3), PairedGates.REPEATED);
        check.due("full", gates.token(0, 0, 9), PairedGates.FULL);
        check.due("a full one is not accepted", gates.token(1, 0, 9), PairedGates.ACCEPTED);
        gates.mode(0, 2);
        check.due("closed and repeated", gates.token(0, 0, 3), PairedGates.CLOSED);
        check.due("repeated", gates.token(0, 1, 3), PairedGates.REPEATED);
    }

    private static void expiresAfterTwoHundred(Check check) {
        PairedGates gates = new PairedGates();
        gates.ticks(5);
        gates.token(1, 0, 4);
        gates.ticks(199);
        check.due("waiting after 199 ticks", gates.waiting(1, 0), 1);
        check.due("refunds after 199 ticks", gates.refunds(), 0);
        gates.ticks(1);
        check.due("waiting after 200 ticks", gates.waiting(1, 0), 0);
        check.due("refund(0)", gates.refund(0), 4);
        gates.ticks(300);
        check.due("refunds, once only", gates.refunds(), 1);
    }

    private static void expiresOneByOne(Check check) {
        PairedGates gates = new PairedGates();
        gates.token(0, 0, 1);
        gates.ticks(1);
        gates.token(0, 0, 2);
        gates.ticks(100);
        gates.token(0, 0, 3);
        gates.ticks(99);
        check.due("waits(0, 0, 0) at 200", gates.waits(0, 0, 0), 2);
        gates.ticks(1);
        check.due("waits(0, 0, 0) at 201", gates.waits(0, 0, 0), 3);
        gates.ticks(99);
        check.due("waiting at 300", gates.waiting(0, 0), 1);
        gates.ticks(1);
        check.due("waiting at 301", gates.waiting(0, 0), 0);
        expiredGoesToNobody(check);
    }

    private static void expiredGoesToNobody(Check check) {
        PairedGates gates = new PairedGates();
        gates.token(0, 0, 1);
        gates.ticks(198);
        gates.beams(0, Walk.row(0, 4));
        gates.ticks(1);
        gates.ticks(1);
        check.due("a body comes at the 200th tick", gates.bodies(0), 1);
        check.due("its token", gates.body(0, 0, 3), PairedGates.NONE);
        check.due("refund(0)", gates.refund(0), 1);
        gates.token(0, 0, 2);
        gates.ticks(300);
        check.due("what a body has does not expire", gates.body(0, 0, 3), 2);
        check.due("refunds()", gates.refunds(), 1);
    }

    private static void cancelTakesTheOldest(Check check) {
        PairedGates gates = new PairedGates();
        gates.token(0, 1, 30);
        gates.token(0, 1, 10);
        gates.token(0, 1, 20);
        gates.token(1, 1, 40);
        check.due("cancel", gates.cancel(0, 1), 30);
        check.due("cancel", gates.cancel(0, 1), 10);
        check.due("waits(0, 1, 0)", gates.waits(0, 1, 0), 20);
        check.due("waiting(0, 1)", gates.waiting(0, 1), 1);
        check.due("cancel", gates.cancel(0, 1), 20);
        check.due("cancel of none", gates.cancel(0, 1), PairedGates.NONE);
        check.due("cancel of none on the other side", gates.cancel(0, 0), PairedGates.NONE);
        check.due("waiting(1, 1)", gates.waiting(1, 1), 1);
        check.due("refunds()", gates.refunds(), 3);
        check.due("refund(0)", gates.refund(0), 30);
        check.due("refund(2)", gates.refund(2), 20);
        check.due("accepted()", gates.accepted(), 4);
    }

    private static void wrongArguments(Check check) {
        PairedGates gates = new PairedGates();
        gates.token(0, 0, 1);
        for (int bad : new int[] {-1, 2, Integer.MIN_VALUE, Integer.MAX_VALUE}) {
            check.dueThrow("token(" + bad + ", 0, 2)", Check.BOUNDS, () -> gates.token(bad, 0, 2));
            check.dueThrow("token(0, " + bad + ", 2)", Check.BOUNDS, () -> gates.token(0, bad, 2));
            check.dueThrow("token(" + bad + ", 0, -1)", Check.BOUNDS, () -> gates.token(bad, 0, -1));
            check.dueThrow("token(0, " + bad + ", -1)", Check.BOUNDS, () -> gates.token(0, bad, -1));
            check.dueThrow("cancel(" + bad + ", 0)", Check.BOUNDS, () -> gates.cancel(bad, 0));
            check.dueThrow("cancel(0, " + bad + ")", Check.BOUNDS, () -> gates.cancel(0, bad));
            check.dueThrow("waiting(" + bad + ", 0)", Check.BOUNDS, () -> gates.waiting(bad, 0));
            check.dueThrow("waiting(0, " + bad + ")", Check.BOUNDS, () -> gates.waiting(0, bad));
            check.dueThrow("waits(" + bad + ", 0, 0)", Check.BOUNDS, () -> gates.waits(bad, 0, 0));
            check.dueThrow("waits(0, " + bad + ", 9)", Check.BOUNDS, () -> gates.waits(0, bad, 9));
        }
        check.dueThrow("token(0, 0, -1)", Check.ARGUMENT, () -> gates.token(0, 0, -1));
        check.dueThrow("token(0, 0, min)", Check.ARGUMENT, () -> gates.token(0, 0, Integer.MIN_VALUE));
        gates.mode(1, 3);
        check.dueThrow("token(1, 0, -1) in a closed lane", Check.ARGUMENT, () -> gates.token(1, 0, -1));
        check.due("accepted() after calls that threw", gates.accepted(), 1);
        check.due("refunds() after calls that threw", gates.refunds(), 0);
        check.due("waiting(0, 0) after calls that threw", gates.waiting(0, 0), 1);
    }
}
