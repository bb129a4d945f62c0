/** Short ways to bring an object into a state, and to write a state down. */
final class Walk {
    private Walk() {
    }

    /** Two ticks of a word are enough to see just its beams: the answer is how many bodies left. */
    static int show(PairedGates gates, int lane, int word) {
        gates.beams(lane, word);
        return gates.ticks(2);
    }

    static int showAll(PairedGates gates, int lane, int... words) {
        int left = 0;
        for (int word : words) {
            left += show(gates, lane, word);
        }
        return left;
    }

    /** One tick of each word, so that what is seen may change at every tick. */
    static int flash(PairedGates gates, int lane, int... words) {
        int left = 0;
        for (int word : words) {
            gates.beams(lane, word);
            left += gates.ticks(1);
        }
        return left;
    }

    /** Beams first .. last as a word. */
    static int row(int first, int last) {
        return ((1 << last + 1) - 1) & ~((1 << first) - 1);
    }

    /** One comes in on a side, walks to an interval, and stands there. */
    static void walkTo(PairedGates gates, int lane, int side, int first, int last) {
        show(gates, lane, side == 0 ? 1 : 512);
        show(gates, lane, side == 0 ? row(0, last) : row(first, 9));
        show(gates, lane, row(first, last));
    }

    static String bodyText(PairedGates gates, int lane, int i) {
        return gates.body(lane, i, 0) + ".." + gates.body(lane, i, 1) + " side " + gates.body(lane, i, 2)
                + " token " + gates.body(lane, i, 3) + " length " + gates.body(lane, i, 4);
    }

    static String rowText(PairedGates gates, int lane) {
        StringBuilder text = new StringBuilder();
        for (int i = 0; i < gates.bodies(lane); i++) {
            text.append(i == 0 ? "" : "; ").append(bodyText(gates, lane, i));
        }
        return text.toString();
    }

    /** The intervals of a lane's bodies alone, such as "0..2 7..9". */
    static String intervals(PairedGates gates, int lane) {
        StringBuilder text = new StringBuilder();
        for (int i = 0; i < gates.bodies(lane); i++) {
            text.append(i == 0 ? "" : " ").append(gates.body(lane, i, 0)).append("..").append(gates.body(lane, i, 1));
        }
        return text.toString();
    }

    static String refundText(PairedGates gates) {
        StringBuilder text = new StringBuilder();
        for (int i = 0; i < gates.refunds(); i++) {
            text.append(i == 0 ? "" : " ").append(gates.refund(i));
        }
        return text.toString();
    }

    static String waitText(PairedGates gates, int lane, int side) {
        StringBuilder text = new StringBuilder();
        for (int i = 0; i < gates.waiting(lane, side); i++) {
            text.append(i == 0 ? "" : " ").append(gates.waits(lane, side, i));
        }
        return text.toString();
    }

    static String countText(PairedGates gates, int lane) {
        StringBuilder text = new StringBuilder();
        for (int kind = 0; kind < 5; kind++) {
            text.append(kind == 0 ? "" : " ").append(gates.count(lane, kind));
        }
        return text.toString();
    }

    /** All that an object answers without a change: some hundred calls. */
    static String stateText(PairedGates gates) {
        StringBuilder text = new StringBuilder();
        text.append("time ").append(gates.time()).append(", accepted ").append(gates.accepted());
        text.append(", refunds ").append(gates.refunds()).append(": ").append(refundText(gates));
        for (int lane = 0; lane < 2; lane++) {
            text.append(" | bodies ").append(gates.bodies(lane)).append(": ").append(rowText(gates, lane));
            for (int side = 0; side < 2; side++) {
                text.append(", waiting ").append(gates.waiting(lane, side)).append(": ");
                text.append(waitText(gates, lane, side));
            }
            text.append(", counts ").append(countText(gates, lane));
            text.append(", angle ").append(gates.angle(lane)).append(", order ").append(gates.order(lane));
            text.append(", seen ").append(gates.seen(lane));
        }
        return text.toString();
    }
}
