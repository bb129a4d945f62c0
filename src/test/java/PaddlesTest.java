/** Promises 7, 14 and 15: the alarm, the paddles' angle and order. */
public final class PaddlesTest {
    public static void main(String[] args) {
        Check check = new Check();
        alarmOpensBothLanes(check);
        tokenOpensItsLane(check);
        neverShutOnAnybody(check);
        stopsHalfway(check);
        alarmTwice(check);
        wrongLanes(check);
        check.end();
    }

    private static void alarmOpensBothLanes(Check check) {
        PairedGates gates = new PairedGates();
        gates.alarm(true);
        check.due("order before a tick", gates.order(0), 0);
        for (int tick = 1; tick <= 50; tick++) {
            gates.ticks(1);
            for (int lane = 0; lane < 2; lane++) {
                check.due("angle at tick " + tick, gates.angle(lane), Math.min(90, 2 * tick));
                check.due("order at tick " + tick, gates.order(lane), tick <= 45 ? 2 : 0);
            }
        }
        gates.alarm(false);
        check.due("order before the next tick", gates.order(0), 0);
        for (int tick = 1; tick <= 50; tick++) {
            gates.ticks(1);
            check.due("angle after the alarm", gates.angle(1), Math.max(0, 90 - 2 * tick));
            check.due("order after the alarm", gates.order(1), tick <= 45 ? -2 : 0);
        }
    }

    private static void tokenOpensItsLane(Check check) {
        PairedGates gates = new PairedGates();
        gates.token(1, 0, 3);
        gates.ticks(2);
        check.due("a token that waits does not open", gates.angle(1), 0);
        Walk.show(gates, 1, Walk.row(0, 3));
        check.due("nor does one who has not reached", gates.order(1), 0);
        gates.beams(1, Walk.row(0, 4));
        gates.ticks(1);
        check.due("order, beam 4 not yet seen", gates.order(1), 0);
        gates.ticks(1);
        check.due("order, one has the token", gates.order(1), 2);
        check.due("angle at that very tick", gates.angle(1), 2);
        check.due("angle of the other lane", gates.angle(0), 0);
        gates.ticks(44);
        check.due("angle 44 ticks later", gates.angle(1), 90);
        check.due("order 44 ticks later", gates.order(1), 2);
        gates.ticks(1);
        check.due("order when it is open", gates.order(1), 0);
        check.due("angle when it is open", gates.angle(1), 90);
    }

    private static void neverShutOnAnybody(Check check) {
        for (int beam = 0; beam < 10; beam++) {
            PairedGates gates = new PairedGates();
            gates.alarm(true);
            gates.beams(0, 1 << beam);
            gates.ticks(10);
            gates.alarm(false);
            gates.ticks(1);
            boolean between = beam >= 3 && beam <= 6;
            check.due("order with beam " + beam + " seen", gates.order(0), between ? 0 : -2);
            check.due("angle with beam " + beam + " seen", gates.angle(0), between ? 20 : 18);
            check.due("order of the other lane", gates.order(1), -2);
        }
        gapIsNotSeen(check);
    }

    private static void gapIsNotSeen(Check check) {
        PairedGates gates = new PairedGates();
        gates.alarm(true);
        Walk.show(gates, 0, 1 << 2 | 1 << 7);
        gates.alarm(false);
        gates.ticks(1);
        check.due("order with beams 2 and 7 seen", gates.order(0), -2);
        check.due("angle with beams 2 and 7 seen", gates.angle(0), 2);
    }

    private static void stopsHalfway(Check check) {
        PairedGates gates = new PairedGates();
        gates.alarm(true);
        gates.ticks(7);
        gates.alarm(false);
        gates.ticks(3);
        check.due("angle up 7, down 3", gates.angle(0), 8);
        gates.alarm(true);
        gates.ticks(1);
        check.due("angle up again", gates.angle(0), 10);
        gates.alarm(false);
        gates.ticks(5);
        check.due("angle shut", gates.angle(0), 0);
        check.due("order of the last step", gates.order(0), -2);
        gates.ticks(1);
        check.due("order when it is shut", gates.order(0), 0);
        check.due("angle when it is shut", gates.angle(0), 0);
    }

    private static void alarmTwice(Check check) {
        PairedGates gates = new PairedGates();
        gates.alarm(true);
        gates.alarm(true);
        gates.alarm(false);
        gates.ticks(2);
        check.due("angle, the alarm is off", gates.angle(0), 0);
        gates.alarm(false);
        gates.alarm(true);
        gates.ticks(2);
        check.due("angle, the alarm is on", gates.angle(0), 4);
        check.due("time", gates.time(), 4);
    }

    private static void wrongLanes(Check check) {
        PairedGates gates = new PairedGates();
        for (int lane : new int[] {-1, 2, Integer.MIN_VALUE, Integer.MAX_VALUE}) {
            check.dueThrow("angle(" + lane + ")", Check.BOUNDS, () -> gates.angle(lane));
            check.dueThrow("order(" + lane + ")", Check.BOUNDS, () -> gates.order(lane));
        }
    }
}
