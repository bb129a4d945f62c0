/** Promises 2 and 16: the word that holds, the beams that are seen. */
public final class BeamsTest {
    public static void main(String[] args) {
        Check check = new Check();
        seenInTwoOfThree(check);
        wordHolds(check);
        lastWordCounts(check);
        tenLowestBits(check);
        lanesAreApart(check);
        wrongLanes(check);
        check.end();
    }

    private static void seenInTwoOfThree(Check check) {
        // The words of ticks 1 .. and what is seen at each: two of this one and the two before it.
        int[] words = {5, 6, 0, 4, 0, 0, 1023, 0, 1023, 512, 512, 0, 0};
        int[] seen = {0, 4, 4, 4, 0, 0, 0, 0, 1023, 512, 512, 512, 0};
        PairedGates gates = new PairedGates();
        for (int i = 0; i < words.length; i++) {
            gates.beams(0, words[i]);
            gates.ticks(1);
            check.due("seen at tick " + (i + 1), gates.seen(0), seen[i]);
        }
    }

    private static void wordHolds(Check check) {
        PairedGates gates = new PairedGates();
        gates.beams(0, 9);
        check.due("seen before a tick", gates.seen(0), 0);
        gates.ticks(300);
        check.due("seen after 300 ticks", gates.seen(0), 9);
        gates.beams(0, 0);
        check.due("seen before the next tick", gates.seen(0), 9);
        gates.ticks(1);
        check.due("seen in two words of three", gates.seen(0), 9);
        gates.ticks(1);
        check.due("seen in one word of three", gates.seen(0), 0);
    }

    private static void lastWordCounts(Check check) {
        PairedGates gates = new PairedGates();
        gates.beams(1, 1);
        gates.beams(1, 2);
        gates.ticks(1);
        gates.beams(1, 1);
        gates.beams(1, 2);
        gates.ticks(1);
        check.due("seen of words told last", gates.seen(1), 2);
    }

    private static void tenLowestBits(Check check) {
        int[] words = {-1, 1024, 1024 + 3, Integer.MIN_VALUE, Integer.MAX_VALUE, -1024, 0x7FFFF800};
        int[] seen = {1023, 0, 3, 0, 1023, 0, 0};
        for (int i = 0; i < words.length; i++) {
            PairedGates gates = new PairedGates();
            gates.beams(0, words[i]);
            gates.ticks(2);
            check.due("seen of word " + words[i], gates.seen(0), seen[i]);
            check.due("bodies of word " + words[i], gates.bodies(0), seen[i] == 0 ? 0 : 1);
        }
    }

    private static void lanesAreApart(Check check) {
        PairedGates gates = new PairedGates();
        gates.beams(0, 1);
        gates.beams(1, 512);
        gates.ticks(2);
        check.due("seen(0)", gates.seen(0), 1);
        check.due("seen(1)", gates.seen(1), 512);
        check.due("side in lane 0", gates.body(0, 0, 2), 0);
        check.due("side in lane 1", gates.body(1, 0, 2), 1);
    }

    private static void wrongLanes(Check check) {
        PairedGates gates = new PairedGates();
        gates.beams(0, 3);
        for (int lane : new int[] {-1, 2, Integer.MIN_VALUE, Integer.MAX_VALUE}) {
            check.dueThrow("beams(" + lane + ", 1)", Check.BOUNDS, () -> {
                gates.beams(lane, 1);
                return 0;
            });
            check.dueThrow("seen(" + lane + ")", Check.BOUNDS, () -> gates.seen(lane));
        }
        gates.ticks(2);
        check.due("seen(0) after calls that threw", gates.seen(0), 3);
        check.due("seen(1) after calls that threw", gates.seen(1), 0);
    }
}
