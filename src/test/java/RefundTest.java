/** Promises 18 and 19: the list of refunds, in the order in which they came. */
public final class RefundTest {
    private static final Check check = new Check();

    public static void main(String[] args) {
        everyWayInOneList();
        leaversInRowOrder();
        expiryBeforeLeaving();
        noSuchRefund();
        check.end();
    }

    private static void dueList(String name, PairedGates gates, int... accounts) {
        check.due(name + ": refunds()", gates.refunds(), accounts.length);
        for (int i = 0; i < accounts.length; i++) {
            check.due(name + ": refund(" + i + ")", gates.refund(i), accounts[i]);
        }
        check.due(name + ": the next one", gates.refund(accounts.length), PairedGates.NONE);
    }

    private static void everyWayInOneList() {
        PairedGates gates = new PairedGates();
        gates.token(0, 0, 1);
        gates.token(0, 0, 2);
        gates.token(1, 1, 3);
        gates.token(1, 0, 4);
        gates.cancel(0, 0);
        dueList("a cancel", gates, 1);
        gates.mode(1, 1);
        dueList("a mode", gates, 1, 3);
        Walk.showAll(gates, 0, 1, Walk.row(0, 4), 1, 0);
        dueList("one that turned", gates, 1, 3, 2);
        gates.ticks(200);
        dueList("one that waited", gates, 1, 3, 2, 4);
        gates.token(0, 0, 5);
        Walk.showAll(gates, 0, Walk.row(0, 4), Walk.row(0, 7), 0);
        dueList("one that went through", gates, 1, 3, 2, 4);
        check.due("count(0, 0)", gates.count(0, 0), 1);
    }

    private static void leaversInRowOrder() {
        PairedGates gates = new PairedGates();
        Walk.showAll(gates, 0, 0b1000000001, Walk.row(0, 9), 0b0000010000);
        gates.token(0, 1, 31);
        gates.token(0, 0, 32);
        gates.token(1, 0, 33);
        gates.beams(1, Walk.row(0, 4));
        gates.ticks(2);
        gates.beams(0, 0);
        gates.beams(1, 0);
        check.due("three leave", gates.ticks(2), 3);
        dueList("lane 0 first, those first in the row first", gates, 32, 31, 33);
    }

    private static void expiryBeforeLeaving() {
        PairedGates gates = new PairedGates();
        gates.token(0, 0, 41);
        Walk.show(gates, 0, Walk.row(0, 4));
        gates.token(0, 0, 42);
        gates.token(0, 1, 43);
        gates.token(1, 0, 44);
        gates.ticks(198);
        gates.beams(0, 0);
        gates.ticks(1);
        dueList("199 ticks", gates);
        gates.ticks(1);
        dueList("what waited comes before what left", gates, 42, 43, 41, 44);
    }

    private static void noSuchRefund() {
        PairedGates gates = new PairedGates();
        gates.token(0, 0, 9);
        gates.cancel(0, 0);
        check.due("refund(0)", gates.refund(0), 9);
        for (int i : new int[] {-1, 1, 511, 512, 513, Integer.MIN_VALUE, Integer.MAX_VALUE}) {
            check.due("refund(" + i + ")", gates.refund(i), PairedGates.NONE);
        }
    }
}
