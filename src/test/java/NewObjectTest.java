/** Promise 1, and what every other promise answers on a new object. */
public final class NewObjectTest {
    public static void main(String[] args) {
        Check check = new Check();
        PairedGates gates = new PairedGates();
        check.due("time()", gates.time(), 0);
        check.due("accepted()", gates.accepted(), 0);
        check.due("refunds()", gates.refunds(), 0);
        check.due("refund(0)", gates.refund(0), PairedGates.NONE);
        for (int lane = 0; lane < 2; lane++) {
            emptyLane(check, gates, lane);
        }
        opensByTokensOfBothSides(check);
        staysShutWithoutAlarm(check);
        objectsAreApart(check);
        check.end();
    }

    private static void emptyLane(Check check, PairedGates gates, int lane) {
        check.due("bodies", gates.bodies(lane), 0);
        check.due("angle", gates.angle(lane), 0);
        check.due("order", gates.order(lane), 0);
        check.due("seen", gates.seen(lane), 0);
        for (int kind = 0; kind < 5; kind++) {
            check.due("count", gates.count(lane, kind), 0);
        }
        for (int side = 0; side < 2; side++) {
            check.due("waiting", gates.waiting(lane, side), 0);
            check.due("waits", gates.waits(lane, side, 0), PairedGates.NONE);
            check.due("cancel", gates.cancel(lane, side), PairedGates.NONE);
        }
    }

    private static void opensByTokensOfBothSides(Check check) {
        PairedGates gates = new PairedGates();
        for (int lane = 0; lane < 2; lane++) {
            for (int side = 0; side < 2; side++) {
                check.due("token in mode 0", gates.token(lane, side, lane * 2 + side), PairedGates.ACCEPTED);
            }
        }
    }

    private static void staysShutWithoutAlarm(Check check) {
        PairedGates gates = new PairedGates();
        check.due("ticks(5)", gates.ticks(5), 0);
        check.due("angle(0)", gates.angle(0), 0);
        check.due("angle(1)", gates.angle(1), 0);
        check.due("seen(0), no word told", gates.seen(0), 0);
    }

    private static void objectsAreApart(Check check) {
        PairedGates used = new PairedGates();
        used.alarm(true);
        used.token(0, 0, 1);
        used.beams(0, 1023);
        used.ticks(5);
        PairedGates fresh = new PairedGates();
        check.due("time() of another object", fresh.time(), 0);
        fresh.ticks(5);
        check.due("angle of another object", fresh.angle(0), 0);
        check.due("bodies of another object", fresh.bodies(0), 0);
        check.due("accepted of another object", fresh.accepted(), 0);
        check.due("token of another object", fresh.token(0, 0, 1), PairedGates.ACCEPTED);
    }
}
