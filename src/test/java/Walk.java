/** Short ways to bring an object into a state. */
final class Walk {
    private Walk() {
    }

    /** Two ticks of a word are enough to see just its beams: the answer is how many bodies left. */
    static int show(PairedGates gates, int lane, int word) {
        gates.beams(lane, word);
        return gates.ticks(2);
    }

    static int showAll(PairedGates gates, int lane, int... words) {
        int left = 0;
        for (int word : words) {
            left += show(gates, lane, word);
        }
        return left;
    }

    /** Beams first .. last as a word. */
    static int row(int first, int last) {
        return ((1 << last + 1) - 1) & ~((1 << first) - 1);
    }

    static String bodyText(PairedGates gates, int lane, int i) {
        return gates.body(lane, i, 0) + ".." + gates.body(lane, i, 1) + " side " + gates.body(lane, i, 2)
                + " token " + gates.body(lane, i, 3) + " length " + gates.body(lane, i, 4);
    }

    static String rowText(PairedGates gates, int lane) {
        StringBuilder text = new StringBuilder();
        for (int i = 0; i < gates.bodies(lane); i++) {
            text.append(i == 0 ? "" : "; ").append(bodyText(gates, lane, i));
        }
        return text.toString();
    }
}
