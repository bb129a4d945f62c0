import java.util.ArrayList;
import java.util.List;

/** The sentences on exceptions: who throws which one, which one wins, and that nothing changes. */
public final class ThrowsTest {
    private static final Check check = new Check();
    private static final int[] NO_LANES = {Integer.MIN_VALUE, -1, 2, 3, Integer.MAX_VALUE};

    /** A call on an object. */
    private interface Call {
        int on(PairedGates gates);
    }

    private record Bad(String sentence, String name, String due, Call call) {
    }

    private static final List<Bad> bad = new ArrayList<>();

    public static void main(String[] args) {
        lanesAndSides();
        noSuchLane();
        noSuchSide();
        noSuchBody();
        wrongArguments();
        wrongState();
        eachThrows();
        eachChangesNothing();
        firstOfTwoWins();
        firstOfThreeWins();
        accountBelowZero();
        check.end();
    }

    private static void addBounds(String name, Call call) {
        bad.add(new Bad("IndexOutOfBounds: there is no such lane or side", name, Check.BOUNDS, call));
    }

    private static void addArgument(String sentence, String name, Call call) {
        bad.add(new Bad(sentence, name, Check.ARGUMENT, call));
    }

    private static int beams(PairedGates gates, int lane, int word) {
        gates.beams(lane, word);
        return 0;
    }

    /** Both lanes with bodies, some of them with tokens, tokens that wait, a refund, and words not taken yet. */
    private static PairedGates walked() {
        PairedGates gates = new PairedGates();
        gates.mode(1, 1);
        gates.alarm(true);
        gates.token(0, 0, 1);
        gates.token(0, 0, 2);
        gates.token(0, 1, 3);
        gates.token(1, 0, 4);
        gates.cancel(0, 0);
        gates.beams(0, 0b1000000001);
        gates.beams(1, Walk.row(0, 4));
        gates.ticks(3);
        gates.beams(0, 0b1000111111);
        gates.ticks(2);
        gates.token(1, 0, 5);
        gates.alarm(false);
        gates.beams(0, 0b1111000000);
        gates.beams(1, 0b0000000111);
        gates.ticks(1);
        gates.beams(0, 0b1111000001);
        return gates;
    }

    /** Tokens that wait and words not taken yet, and no bodies: mode does not throw here for its state. */
    private static PairedGates waited() {
        PairedGates gates = new PairedGates();
        gates.mode(0, 2);
        gates.token(0, 1, 3);
        gates.token(0, 1, 6);
        gates.token(1, 0, 4);
        gates.ticks(100);
        gates.beams(0, 1);
        gates.beams(1, 1023);
        gates.alarm(true);
        return gates;
    }

    /** What an object answers from here on: all that it holds, now and some ticks later, and what it remembers. */
    private static String future(PairedGates gates) {
        StringBuilder text = new StringBuilder(Walk.stateText(gates));
        for (int place = 0; place < 4; place++) {
            text.append(", token ").append(gates.token(place / 2, place % 2, 3 + place));
        }
        text.append(", left ").append(gates.ticks(2)).append(", ").append(Walk.stateText(gates));
        text.append(", left ").append(gates.ticks(199)).append(", ").append(Walk.refundText(gates));
        return text.toString();
    }

    private static void lanesAndSides() {
        check.sentence("LANES are 0, 1");
        for (int lane = 0; lane < 2; lane++) {
            PairedGates gates = walked();
            int asked = lane;
            check.dueThrow("beams", "nothing", () -> beams(gates, asked, 1));
            check.dueThrow("bodies", "nothing", () -> gates.bodies(asked));
            check.dueThrow("body", "nothing", () -> gates.body(asked, 0, 0));
            check.dueThrow("count", "nothing", () -> gates.count(asked, 0));
            check.dueThrow("angle", "nothing", () -> gates.angle(asked));
            check.dueThrow("order", "nothing", () -> gates.order(asked));
            check.dueThrow("seen", "nothing", () -> gates.seen(asked));
            check.dueThrow("mode", "nothing", () -> waited().mode(asked, 0));
            for (int side = 0; side < 2; side++) {
                int at = side;
                check.dueThrow("token", "nothing", () -> gates.token(asked, at, 0));
                check.dueThrow("waiting", "nothing", () -> gates.waiting(asked, at));
                check.dueThrow("waits", "nothing", () -> gates.waits(asked, at, 0));
                check.dueThrow("cancel", "nothing", () -> gates.cancel(asked, at));
            }
        }
    }

    private static void noSuchLane() {
        for (int lane : NO_LANES) {
            String at = "(" + lane + ", ..)";
            addBounds("beams" + at, gates -> beams(gates, lane, 1023));
            addBounds("token" + at, gates -> gates.token(lane, 0, 50));
            addBounds("token of side 1" + at, gates -> gates.token(lane, 1, 50));
            addBounds("cancel" + at, gates -> gates.cancel(lane, 0));
            addBounds("cancel of side 1" + at, gates -> gates.cancel(lane, 1));
            addBounds("mode" + at, gates -> gates.mode(lane, 3));
            addBounds("bodies" + at, gates -> gates.bodies(lane));
            addBounds("body" + at, gates -> gates.body(lane, 0, 0));
            addBounds("waiting" + at, gates -> gates.waiting(lane, 0));
            addBounds("waits" + at, gates -> gates.waits(lane, 0, 0));
            addBounds("waits of no token" + at, gates -> gates.waits(lane, 0, -1));
            addBounds("count" + at, gates -> gates.count(lane, 0));
            addBounds("count of no kind" + at, gates -> gates.count(lane, 5));
            addBounds("angle" + at, gates -> gates.angle(lane));
            addBounds("order" + at, gates -> gates.order(lane));
            addBounds("seen" + at, gates -> gates.seen(lane));
        }
    }

    private static void noSuchSide() {
        for (int side : NO_LANES) {
            for (int lane = 0; lane < 2; lane++) {
                String at = "(" + lane + ", " + side + ", ..)";
                int asked = lane;
                addBounds("token" + at, gates -> gates.token(asked, side, 50));
                addBounds("cancel" + at, gates -> gates.cancel(asked, side));
                addBounds("waiting" + at, gates -> gates.waiting(asked, side));
                addBounds("waits" + at, gates -> gates.waits(asked, side, 0));
                addBounds("waits of no token" + at, gates -> gates.waits(asked, side, 9));
            }
            addBounds("token without lane and side " + side, gates -> gates.token(side, side, 50));
        }
    }

    private static void noSuchBody() {
        for (int i : new int[] {Integer.MIN_VALUE, -1, 4, Integer.MAX_VALUE}) {
            for (int lane = 0; lane < 2; lane++) {
                int asked = lane;
                bad.add(new Bad("IndexOutOfBounds, also if there is no such body", "body(" + lane + ", " + i + ", 0)",
                        Check.BOUNDS, gates -> gates.body(asked, i, 0)));
            }
        }
    }

    private static void wrongArguments() {
        for (int n : new int[] {Integer.MIN_VALUE, -1, 0, 301, Integer.MAX_VALUE}) {
            addArgument("IllegalArgument: n is not 1 .. 300", "ticks(" + n + ")", gates -> gates.ticks(n));
        }
        for (int account : new int[] {Integer.MIN_VALUE, -2, -1}) {
            for (int place = 0; place < 4; place++) {
                int lane = place / 2;
                int side = place % 2;
                addArgument("IllegalArgument: account is below 0", "token(" + lane + ", " + side + ", " + account + ")",
                        gates -> gates.token(lane, side, account));
            }
        }
        for (int mode : new int[] {Integer.MIN_VALUE, -1, 4, 5, Integer.MAX_VALUE}) {
            String sentence = "IllegalArgument: mode is not 0 .. 3";
            addArgument(sentence, "mode(0, " + mode + ")", gates -> gates.mode(0, mode));
            addArgument(sentence, "mode(1, " + mode + ")", gates -> gates.mode(1, mode));
        }
        for (int what : new int[] {Integer.MIN_VALUE, -1, 5, Integer.MAX_VALUE}) {
            String sentence = "IllegalArgument: what is not 0 .. 4";
            addArgument(sentence, "body(0, 0, " + what + ")", gates -> gates.body(0, 0, what));
            addArgument(sentence, "body(1, 0, " + what + ")", gates -> gates.body(1, 0, what));
        }
    }

    private static void wrongState() {
        for (int mode = 0; mode < 4; mode++) {
            for (int lane = 0; lane < 2; lane++) {
                int asked = mode;
                int at = lane;
                bad.add(new Bad("IllegalState: the lane has bodies", "mode(" + lane + ", " + mode + ")", Check.STATE,
                        gates -> gates.mode(at, asked)));
            }
        }
    }

    private static void eachThrows() {
        for (Bad one : bad) {
            check.sentence(one.sentence);
            check.dueThrow(one.name, one.due, () -> one.call.on(walked()));
        }
    }

    private static void eachChangesNothing() {
        check.sentence("A call that throws changes nothing");
        String walked = future(walked());
        String waited = future(waited());
        PairedGates all = walked();
        for (Bad one : bad) {
            PairedGates gates = walked();
            Check.thrownBy(() -> one.call.on(gates));
            check.due("the walked one behind " + one.name, future(gates), walked);
            Check.thrownBy(() -> one.call.on(all));
            // Lanes without bodies have no wrong state for mode, and no body to be asked: those calls are others there.
            PairedGates empty = waited();
            String thrown = Check.thrownBy(() -> one.call.on(empty));
            if (!thrown.equals("nothing")) {
                check.due("the one that waits behind " + one.name, future(empty), waited);
            }
        }
        check.due("the walked one behind all of them", future(all), walked);
    }

    private static void firstOfTwoWins() {
        check.sentence("where it lists more than one exception, the first one wins");
        PairedGates gates = walked();
        for (int none : NO_LANES) {
            check.dueThrow("token, no lane, account -1", Check.BOUNDS, () -> gates.token(none, 0, -1));
            check.dueThrow("token, no side, account -1", Check.BOUNDS, () -> gates.token(0, none, -1));
            check.dueThrow("token, neither, account -1", Check.BOUNDS, () -> gates.token(none, none, -1));
            check.dueThrow("body, no lane, what 5", Check.BOUNDS, () -> gates.body(none, 0, 5));
            check.dueThrow("body, no lane, what -1", Check.BOUNDS, () -> gates.body(none, 0, -1));
        }
        check.dueThrow("token, account -1", Check.ARGUMENT, () -> gates.token(0, 0, -1));
        int bodies = gates.bodies(0);
        check.dueThrow("body, no body, what 5", Check.BOUNDS, () -> gates.body(0, bodies, 5));
        check.dueThrow("body, no body, what -1", Check.BOUNDS, () -> gates.body(0, -1, -1));
        check.dueThrow("body, what 5", Check.ARGUMENT, () -> gates.body(0, bodies - 1, 5));
        check.dueThrow("body of an empty lane, what 5", Check.BOUNDS, () -> waited().body(0, 0, 5));
    }

    private static void firstOfThreeWins() {
        check.sentence("where it lists more than one exception, the first one wins");
        PairedGates gates = walked();
        for (int lane : NO_LANES) {
            check.dueThrow("mode, no lane, no mode", Check.BOUNDS, () -> gates.mode(lane, 4));
            check.dueThrow("mode, no lane, mode -1", Check.BOUNDS, () -> gates.mode(lane, -1));
        }
        check.dueThrow("mode, no mode, bodies", Check.ARGUMENT, () -> gates.mode(0, 4));
        check.dueThrow("mode, mode -1, bodies", Check.ARGUMENT, () -> gates.mode(0, -1));
        check.dueThrow("mode, bodies", Check.STATE, () -> gates.mode(0, 3));
        check.dueThrow("mode, bodies, the mode that it has", Check.STATE, () -> gates.mode(0, 0));
        check.dueThrow("mode, no mode, no bodies", Check.ARGUMENT, () -> waited().mode(0, 4));
        check.dueThrow("mode, no bodies", "nothing", () -> waited().mode(0, 3));
    }

    private static void accountBelowZero() {
        check.sentence("IllegalArgument: account is below 0");
        PairedGates gates = new PairedGates();
        gates.mode(1, 3);
        for (int i = 0; i < 6; i++) {
            gates.token(0, 0, i);
        }
        check.dueThrow("where it is closed", Check.ARGUMENT, () -> gates.token(1, 0, -1));
        check.dueThrow("where it is full", Check.ARGUMENT, () -> gates.token(0, 0, -1));
        check.dueThrow("where there is room", Check.ARGUMENT, () -> gates.token(0, 1, -1));
        check.due("account 0, accepted before", gates.token(0, 1, 0), PairedGates.REPEATED);
        check.due("account 0 of another object", new PairedGates().token(0, 1, 0), PairedGates.ACCEPTED);
    }
}
