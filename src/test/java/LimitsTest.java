import com.sun.management.ThreadMXBean;
import java.lang.management.ManagementFactory;
import java.util.Random;
import java.util.Set;

/** The room that a run lives in, and calls of any arguments in any state, far beyond the 512th: nothing escapes. */
public final class LimitsTest {
    private static final Check check = new Check();
    private static final Set<String> ALLOWED = Set.of("nothing", Check.BOUNDS, Check.ARGUMENT, Check.STATE);

    public static void main(String[] args) {
        ticksMakeNothing();
        wildCalls();
        check.end();
    }

    private static void ticksMakeNothing() {
        PairedGates gates = new PairedGates();
        ThreadMXBean threads = (ThreadMXBean) ManagementFactory.getThreadMXBean();
        busyCalls(gates, 100);
        long before = threads.getCurrentThreadAllocatedBytes();
        busyCalls(gates, 400);
        long made = threads.getCurrentThreadAllocatedBytes() - before;
        check.due("400 calls make less than 64 KiB, here " + made, made < 65536 ? 1 : 0, 1);
    }

    private static void busyCalls(PairedGates gates, int calls) {
        for (int i = 0; i < calls; i += 4) {
            gates.beams(0, i * 37);
            gates.token(0, i & 1, i);
            gates.ticks(300);
            gates.cancel(0, 0);
        }
    }

    private static void wildCalls() {
        Random random = new Random(7);
        for (int run = 0; run < 20; run++) {
            PairedGates gates = new PairedGates();
            for (int i = 0; i < 4000; i++) {
                wildCall(gates, random);
            }
            check.due("accepted() stays within its log", gates.accepted() <= 512 ? 1 : 0, 1);
            check.due("refunds() stays within its list", gates.refunds() <= gates.accepted() ? 1 : 0, 1);
        }
    }

    private static void wildCall(PairedGates gates, Random random) {
        int which = random.nextInt(18);
        int a = wild(random);
        int b = wild(random);
        int c = random.nextInt(3) == 0 ? wild(random) : random.nextInt(100000);
        String thrown = Check.thrownBy(() -> call(gates, which, a, b, c));
        check.due("call " + which + "(" + a + ", " + b + ", " + c + ") threw " + thrown,
                ALLOWED.contains(thrown) ? 1 : 0, 1);
    }

    private static int wild(Random random) {
        switch (random.nextInt(12)) {
            case 0:
                return random.nextInt();
            case 1:
                return Integer.MIN_VALUE;
            case 2:
                return Integer.MAX_VALUE;
            case 3:
                return random.nextInt(1100) - 50;
            default:
                return random.nextInt(4) - 1;
        }
    }

    private static int call(PairedGates gates, int which, int a, int b, int c) {
        switch (which) {
            case 0:
                gates.beams(a, c);
                return 0;
            case 1:
                return gates.ticks((c & 1) == 0 ? a : c % 300);
            case 2:
                return gates.token(a, b, c);
            case 3:
                return gates.cancel(a, b);
            case 4:
                return gates.mode(a, b);
            case 5:
                gates.alarm((a & 1) == 0);
                return 0;
            case 6:
                return gates.time();
            case 7:
                return gates.bodies(a);
            case 8:
                return gates.body(a, b, c % 7);
            case 9:
                return gates.waiting(a, b);
            case 10:
                return gates.waits(a, b, c);
            case 11:
                return gates.count(a, b);
            case 12:
                return gates.angle(a);
            case 13:
                return gates.order(a);
            case 14:
                return gates.seen(a);
            case 15:
                return gates.accepted();
            case 16:
                return gates.refunds();
            default:
                return gates.refund(a);
        }
    }
}
