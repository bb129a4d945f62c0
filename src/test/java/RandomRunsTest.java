import java.util.Arrays;
import java.util.List;
import java.util.Random;

/**
 * Many runs of calls, always the same ones, on PairedGates and on Model, with all answers compared.
 *
 * A step makes two calls at most and two questions, the end of a run some 120 more: a run stays below 512 calls.
 */
public final class RandomRunsTest {
    private static final Check check = new Check();
    private static final int RUNS = 1200;
    private static final int STEPS = 95;

    private final Random random;
    private final String name;
    private final PairedGates gates = new PairedGates();
    private final Model model = new Model();
    private final int[] words = new int[2];

    private RandomRunsTest(int seed) {
        random = new Random(seed);
        name = "run " + seed + ", ";
    }

    public static void main(String[] args) {
        int[] shown = new int[12];
        for (int seed = 0; seed < RUNS; seed++) {
            RandomRunsTest run = new RandomRunsTest(seed);
            run.calls();
            for (int i = 0; i < shown.length; i++) {
                shown[i] += run.model.shown[i];
            }
        }
        System.out.println("shown: " + Arrays.toString(shown));
        for (int i = 0; i < shown.length; i++) {
            check.due("the runs show event " + i + " often, " + shown[i], shown[i] >= 20 ? 1 : 0, 1);
        }
        check.end();
    }

    private void calls() {
        for (int i = 0; i < STEPS; i++) {
            call(name + "step " + i + ": ");
            ask(name + "behind step " + i + ": ", random.nextInt(2));
            ask(name + "behind step " + i + ": ", random.nextInt(2));
        }
        compare(name + "at the end: ");
    }

    private void ask(String at, int lane) {
        Model.Gate due = model.gates[lane];
        int some = random.nextInt(7) - 1;
        switch (random.nextInt(9)) {
            case 0:
                check.due(at + "seen", gates.seen(lane), word(due));
                break;
            case 1:
                check.due(at + "angle", gates.angle(lane), due.angle);
                break;
            case 2:
                check.due(at + "order", gates.order(lane), due.order);
                break;
            case 3:
                check.due(at + "count " + some, gates.count(lane, some), count(due, some));
                break;
            case 4:
                check.due(at + "refunds", gates.refunds(), model.refundList.size());
                break;
            case 5:
                check.due(at + "waits " + some, gates.waits(lane, 0, some), account(due.waiting.get(0), some));
                break;
            case 6:
                check.due(at + "waits " + some, gates.waits(lane, 1, some), account(due.waiting.get(1), some));
                break;
            default:
                askBody(at, lane, due);
                break;
        }
    }

    private void askBody(String at, int lane, Model.Gate due) {
        if (due.row.isEmpty()) {
            check.due(at + "bodies", gates.bodies(lane), 0);
            return;
        }
        int i = random.nextInt(due.row.size());
        int what = random.nextInt(5);
        Model.Someone one = due.row.get(i);
        int[] parts = {one.interval.first(), one.interval.last(), one.side,
            one.token == null ? PairedGates.NONE : one.token.account(), one.length};
        check.due(at + "body " + i + ", " + what, gates.body(lane, i, what), parts[what]);
    }

    private static int word(Model.Gate gate) {
        int seen = 0;
        for (int beam : gate.seen) {
            seen += 1 << beam;
        }
        return seen;
    }

    private static int count(Model.Gate gate, int kind) {
        return kind >= 0 && kind < 5 ? gate.counts[kind] : 0;
    }

    private static int account(List<Model.Token> waiting, int i) {
        return i >= 0 && i < waiting.size() ? waiting.get(i).account() : PairedGates.NONE;
    }

    private void call(String at) {
        int lane = random.nextInt(2);
        int side = random.nextInt(2);
        int kind = random.nextInt(100);
        if (kind < 70) {
            int changed = random.nextInt(3);
            if (changed != 2) {
                tell(changed);
            }
            int n = random.nextInt(40) == 0 ? 1 + random.nextInt(300) : 1 + random.nextInt(3);
            check.due(at + "ticks(" + n + ")", gates.ticks(n), model.ticks(n));
        } else if (kind < 88) {
            int account = random.nextInt(40);
            check.due(at + "token", gates.token(lane, side, account), model.token(lane, side, account));
        } else if (kind < 91) {
            check.due(at + "cancel", gates.cancel(lane, side), model.cancel(lane, side));
        } else if (kind < 96) {
            changeMode(at, lane, random.nextInt(3) == 0 ? random.nextInt(4) : 0);
        } else {
            boolean on = random.nextInt(3) == 0;
            gates.alarm(on);
            model.alarmOn = on;
        }
    }

    private void changeMode(String at, int lane, int mode) {
        int due = model.mode(lane, mode);
        if (due < 0) {
            check.dueThrow(at + "mode", Check.STATE, () -> gates.mode(lane, mode));
        } else {
            check.due(at + "mode", gates.mode(lane, mode), due);
        }
    }

    /** Words that people walking make: most differ little from the one before. */
    private void tell(int lane) {
        int word = words[lane];
        switch (random.nextInt(12)) {
            case 0:
                word = random.nextInt(1024);
                break;
            case 1:
                word = 0;
                break;
            case 2:
                word = Walk.row(0, 9);
                break;
            case 3:
                word |= 1 << 9 * random.nextInt(2);
                break;
            case 4:
                word ^= 1 << random.nextInt(10);
                break;
            case 5:
                word = 0b1001001001 & random.nextInt(1024);
                break;
            case 6:
                word |= word << 1;
                break;
            case 7:
                word &= word << 1;
                break;
            case 8:
            case 9:
                word >>= 1;
                break;
            default:
                word <<= 1;
                break;
        }
        words[lane] = word & 1023;
        int high = random.nextInt(8) == 0 ? random.nextInt() << 10 : 0;
        gates.beams(lane, words[lane] | high);
        model.gates[lane].word = words[lane];
    }

    private void compare(String at) {
        check.due(at + "time", gates.time(), model.time);
        check.due(at + "accepted", gates.accepted(), model.acceptedTokens.size());
        check.due(at + "refunds", gates.refunds(), model.refundList.size());
        int last = model.refundList.size() - 1;
        for (int i = Math.max(0, last - 12); i <= last; i++) {
            check.due(at + "refund " + i, gates.refund(i), model.refundList.get(i));
        }
        check.due(at + "refund " + (last + 1), gates.refund(last + 1), PairedGates.NONE);
        for (int lane = 0; lane < 2; lane++) {
            compareLane(at + "lane " + lane + ", ", lane, model.gates[lane]);
        }
    }

    private void compareLane(String at, int lane, Model.Gate due) {
        check.due(at + "seen", gates.seen(lane), word(due));
        check.due(at + "angle", gates.angle(lane), due.angle);
        check.due(at + "order", gates.order(lane), due.order);
        for (int kind = -1; kind < 6; kind++) {
            check.due(at + "count " + kind, gates.count(lane, kind), count(due, kind));
        }
        for (int side = 0; side < 2; side++) {
            int waiting = due.waiting.get(side).size();
            check.due(at + "waiting " + side, gates.waiting(lane, side), waiting);
            for (int i = 0; i <= waiting; i++) {
                int account = account(due.waiting.get(side), i);
                check.due(at + "waits " + side + ", " + i, gates.waits(lane, side, i), account);
            }
        }
        check.due(at + "bodies", Walk.rowText(gates, lane), rowText(due));
        int bodies = due.row.size();
        check.due(at + "bodies", gates.bodies(lane), bodies);
        check.dueThrow(at + "body " + bodies, Check.BOUNDS, () -> gates.body(lane, bodies, 0));
    }

    private static String rowText(Model.Gate gate) {
        StringBuilder text = new StringBuilder();
        for (Model.Someone one : gate.row) {
            text.append(text.length() == 0 ? "" : "; ");
            text.append(one.interval.first()).append("..").append(one.interval.last());
            text.append(" side ").append(one.side);
            text.append(" token ").append(one.token == null ? PairedGates.NONE : one.token.account());
            text.append(" length ").append(one.length);
        }
        return text.toString();
    }
}
