/** Promises 3 and 8: ticks and the time. */
public final class TicksTest {
    public static void main(String[] args) {
        Check check = new Check();
        timeCountsTicks(check);
        leaversOfBothLanes(check);
        leaversOfManyTicks(check);
        wrongNumbers(check);
        laneZeroFirst(check);
        check.end();
    }

    private static void timeCountsTicks(Check check) {
        PairedGates gates = new PairedGates();
        gates.ticks(1);
        check.due("time() after 1", gates.time(), 1);
        gates.ticks(300);
        check.due("time() after 301", gates.time(), 301);
        gates.beams(0, 1);
        gates.token(0, 0, 1);
        gates.alarm(true);
        check.due("time() after other calls", gates.time(), 301);
    }

    private static void leaversOfBothLanes(Check check) {
        PairedGates gates = new PairedGates();
        gates.beams(0, 0x249);
        gates.beams(1, 0x201);
        check.due("ticks(2), all come", gates.ticks(2), 0);
        gates.beams(0, 0);
        gates.beams(1, 0);
        check.due("ticks(1), still seen", gates.ticks(1), 0);
        check.due("ticks(1), four and two leave", gates.ticks(1), 6);
        check.due("ticks(1), nobody is there", gates.ticks(1), 0);
    }

    private static void leaversOfManyTicks(Check check) {
        PairedGates gates = new PairedGates();
        gates.beams(0, 1);
        gates.ticks(2);
        gates.beams(0, 512);
        // At the first of these ticks nothing but beam 0 is seen, at the second one beam 9.
        check.due("ticks(300), one leaves and another comes", gates.ticks(300), 1);
        check.due("bodies(0)", gates.bodies(0), 1);
    }

    private static void wrongNumbers(Check check) {
        PairedGates gates = new PairedGates();
        gates.alarm(true);
        for (int n : new int[] {0, -1, 301, Integer.MIN_VALUE, Integer.MAX_VALUE}) {
            check.dueThrow("ticks(" + n + ")", Check.ARGUMENT, () -> gates.ticks(n));
        }
        check.due("time() after calls that threw", gates.time(), 0);
        check.due("angle(0) after calls that threw", gates.angle(0), 0);
    }

    private static void laneZeroFirst(Check check) {
        PairedGates gates = new PairedGates();
        gates.token(1, 0, 10);
        gates.token(0, 1, 11);
        gates.token(0, 0, 12);
        gates.token(0, 0, 13);
        gates.ticks(200);
        int[] due = {12, 13, 11, 10};
        check.due("refunds()", gates.refunds(), due.length);
        for (int i = 0; i < due.length; i++) {
            check.due("refund(" + i + ")", gates.refund(i), due[i]);
        }
    }
}
