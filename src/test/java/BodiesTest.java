/** Promises 9 and 10: bodies that come, are followed, share a blob and get tokens (steps 2 to 5 of a tick). */
public final class BodiesTest {
    private static final Check check = new Check();

    public static void main(String[] args) {
        blobsArePartedByTwoBeams();
        sideOfNewBodies();
        followedWhileMet();
        goesToTheFirstBlob();
        splitInheritsTheSide();
        sharesOfABlob();
        moreBodiesThanBeams();
        atMostFour();
        newBodyStandsInItsPlace();
        lengthIsTheMost();
        tokenWhenPaddlesAreReached();
        tokensInRowOrder();
        wrongArguments();
        check.end();
    }

    private static PairedGates shown(int... words) {
        PairedGates gates = new PairedGates();
        Walk.showAll(gates, 0, words);
        return gates;
    }

    private static void dueRow(String name, PairedGates gates, String... bodies) {
        check.due(name, gates.bodies(0), bodies.length);
        check.due(name, Walk.rowText(gates, 0), String.join("; ", bodies));
    }

    private static void blobsArePartedByTwoBeams() {
        dueRow("one unseen between", shown(0b101), "0..2 side 0 token -1 length 3");
        dueRow("two unseen between", shown(0b1001),
                "0..0 side 0 token -1 length 1", "3..3 side 0 token -1 length 1");
        dueRow("every second beam", shown(0b0101010101), "0..8 side 0 token -1 length 9");
        dueRow("every second beam, the others", shown(0b1010101010), "1..9 side 1 token -1 length 9");
        dueRow("most blobs", shown(0b1001001001),
                "0..0 side 0 token -1 length 1", "3..3 side 0 token -1 length 1",
                "6..6 side 1 token -1 length 1", "9..9 side 1 token -1 length 1");
        dueRow("gaps of one and of two", shown(0b1101100110),
                "1..2 side 0 token -1 length 2", "5..9 side 1 token -1 length 5");
        dueRow("nothing", shown(0));
        PairedGates gates = shown(0b1001);
        check.due("bodies of the other lane", gates.bodies(1), 0);
    }

    private static void sideOfNewBodies() {
        for (int first = 0; first < 10; first++) {
            for (int last = first; last < 10; last++) {
                PairedGates gates = shown(Walk.row(first, last));
                String due = first + ".." + last + " side " + (first + last < 9 ? 0 : 1)
                        + " token -1 length " + (last - first + 1);
                dueRow("a new body", gates, due);
            }
        }
    }

    private static void followedWhileMet() {
        dueRow("a beam on", shown(1, 2), "1..1 side 0 token -1 length 1");
        dueRow("two beams on is another one", shown(1 << 2, 1 << 4), "4..4 side 0 token -1 length 1");
        PairedGates gone = new PairedGates();
        check.due("a beam on", Walk.showAll(gone, 0, 1 << 2, 1 << 3, 1 << 2), 0);
        check.due("two beams on", Walk.show(gone, 0, 1 << 4), 1);
        check.due("two beams back", Walk.show(gone, 0, 1 << 2), 1);
        check.due("count(0, 2)", gone.count(0, 2), 1);
        check.due("count(0, 3)", gone.count(0, 3), 1);
        int[] through = {1, 2, 4, 8, 16, 32, 64, 128, 256, 512};
        dueRow("side 0 at beam 9", shown(through), "9..9 side 0 token -1 length 1");
        int[] back = {512, 256, 128, 64, 32, 16, 8, 4, 2, 1};
        dueRow("side 1 at beam 0", shown(back), "0..0 side 1 token -1 length 1");
    }

    private static void goesToTheFirstBlob() {
        PairedGates gates = shown(1, Walk.row(0, 9));
        gates.token(0, 0, 5);
        gates.ticks(1);
        Walk.show(gates, 0, 0b1110000000 | 0b11);
        dueRow("the old one, with its token, is at the first blob", gates,
                "0..1 side 0 token 5 length 10", "7..9 side 0 token -1 length 3");
    }

    private static void splitInheritsTheSide() {
        dueRow("side 0 goes on", shown(1, Walk.row(0, 9), 0b1110000111),
                "0..2 side 0 token -1 length 10", "7..9 side 0 token -1 length 3");
        dueRow("side 1 goes on", shown(512, Walk.row(0, 9), 0b1000000111),
                "0..2 side 1 token -1 length 10", "9..9 side 1 token -1 length 1");
        // The old interval is 0 .. 5: beam 6 is the last one that it meets.
        dueRow("just met", shown(1, Walk.row(0, 5), 0b0001000001),
                "0..0 side 0 token -1 length 6", "6..6 side 0 token -1 length 1");
        dueRow("just not met", shown(1, Walk.row(0, 5), 0b0010000001),
                "0..0 side 0 token -1 length 6", "7..7 side 1 token -1 length 1");
        // Body 0 goes to 0 .. 0; the blob 3 .. 3 meets the old interval of body 1 only, but body 1 went to it.
        dueRow("each has one", shown(0b1001), "0..0 side 0 token -1 length 1", "3..3 side 0 token -1 length 1");
        dueRow("the second of two old ones is met", shown(0b1000000001, 0b1111000001, 0b1001000001),
                "0..0 side 0 token -1 length 1", "6..6 side 1 token -1 length 4", "9..9 side 1 token -1 length 1");
    }

    private static void sharesOfABlob() {
        dueRow("two share ten", shown(0b1000000001, Walk.row(0, 9)),
                "0..4 side 0 token -1 length 5", "5..9 side 1 token -1 length 5");
        dueRow("two share seven", shown(0b0000001001, Walk.row(1, 7)),
                "1..3 side 0 token -1 length 3", "4..7 side 0 token -1 length 4");
        dueRow("three share ten", shown(0b1000010001, Walk.row(0, 9)),
                "0..2 side 0 token -1 length 3", "3..5 side 0 token -1 length 3", "6..9 side 1 token -1 length 4");
        dueRow("four share ten", shown(0b1001001001, Walk.row(0, 9)),
                "0..1 side 0 token -1 length 2", "2..4 side 0 token -1 length 3",
                "5..6 side 1 token -1 length 2", "7..9 side 1 token -1 length 3");
        dueRow("a blob with a gap is shared by its beams", shown(0b0000001001, 0b0000001011),
                "0..1 side 0 token -1 length 2", "2..3 side 0 token -1 length 2");
    }

    private static void moreBodiesThanBeams() {
        dueRow("two on one beam", shown(0b1000000001, Walk.row(0, 9), 0b0000010000),
                "4..4 side 0 token -1 length 5", "4..4 side 1 token -1 length 5");
        dueRow("three on two beams", shown(0b1001001001, Walk.row(0, 9), Walk.row(3, 6), Walk.row(4, 5)),
                "4..4 side 0 token -1 length 3", "4..4 side 1 token -1 length 2", "5..5 side 1 token -1 length 3");
        dueRow("four on two beams", shown(0b1001001001, Walk.row(0, 9), Walk.row(1, 8), Walk.row(3, 6), Walk.row(4, 5)),
                "4..4 side 0 token -1 length 2", "4..4 side 0 token -1 length 3",
                "5..5 side 1 token -1 length 2", "5..5 side 1 token -1 length 3");
        PairedGates gates = shown(0b1000000001, Walk.row(0, 9), 0b0000010000);
        check.due("both leave", Walk.show(gates, 0, 0), 2);
    }

    private static void atMostFour() {
        PairedGates gates = shown(0b1001001001, Walk.row(0, 9), 0b1001001001);
        dueRow("a fifth is not made", gates,
                "0..0 side 0 token -1 length 2", "3..3 side 0 token -1 length 3",
                "6..6 side 1 token -1 length 2", "6..6 side 1 token -1 length 3");
        gates.ticks(5);
        check.due("nor later", gates.bodies(0), 4);
        check.due("one leaves", Walk.show(gates, 0, 0b1001001000), 1);
        dueRow("and one is made at the same tick", gates,
                "3..3 side 0 token -1 length 3", "6..6 side 1 token -1 length 2",
                "6..6 side 1 token -1 length 3", "9..9 side 1 token -1 length 1");
        earlierBlobsAreNotMadeEither();
        PairedGates split = shown(0b0001000001, Walk.row(0, 9), 0b1001001001);
        dueRow("two become four", split,
                "0..0 side 0 token -1 length 5", "3..3 side 0 token -1 length 1",
                "6..6 side 1 token -1 length 5", "9..9 side 1 token -1 length 1");
    }

    /** Who is there stays, also behind a blob to which none went. */
    private static void earlierBlobsAreNotMadeEither() {
        PairedGates four = shown(0b1001001001, Walk.row(0, 9), Walk.row(1, 9), Walk.row(2, 9), Walk.row(3, 9));
        Walk.show(four, 0, Walk.row(3, 9) | 1);
        dueRow("four are there, a blob comes before them", four,
                "3..3 side 0 token -1 length 2", "4..5 side 0 token -1 length 3",
                "6..7 side 1 token -1 length 2", "8..9 side 1 token -1 length 3");
        PairedGates three = shown(0b1001000001, Walk.row(0, 9), Walk.row(2, 9), Walk.row(4, 9), Walk.row(6, 9));
        Walk.show(three, 0, Walk.row(6, 9) | 0b1001);
        dueRow("three are there, two blobs come before them", three,
                "0..0 side 0 token -1 length 1", "6..6 side 0 token -1 length 3",
                "7..7 side 1 token -1 length 3", "8..9 side 1 token -1 length 4");
    }

    private static void newBodyStandsInItsPlace() {
        PairedGates gates = shown(0b1000000000);
        Walk.show(gates, 0, 0b1000000001);
        dueRow("before the others", gates,
                "0..0 side 0 token -1 length 1", "9..9 side 1 token -1 length 1");
        Walk.show(gates, 0, 0b1000010001);
        dueRow("between them", gates, "0..0 side 0 token -1 length 1",
                "4..4 side 0 token -1 length 1", "9..9 side 1 token -1 length 1");
        PairedGates three = shown(0b1001001000, 0b1001001001 & ~0b1000);
        dueRow("one leaves, one comes", three, "0..0 side 0 token -1 length 1",
                "6..6 side 1 token -1 length 1", "9..9 side 1 token -1 length 1");
    }

    private static void lengthIsTheMost() {
        dueRow("longer", shown(1, 3, 7), "0..2 side 0 token -1 length 3");
        dueRow("shorter", shown(1, 3, 7, 6, 4), "2..2 side 0 token -1 length 3");
        dueRow("shorter and longer", shown(7, 1, 3), "0..1 side 0 token -1 length 3");
        PairedGates gates = shown(7, 0, 1);
        dueRow("another body has its own", gates, "0..0 side 0 token -1 length 1");
    }

    private static void tokenWhenPaddlesAreReached() {
        for (int last = 0; last < 9; last++) {
            PairedGates gates = new PairedGates();
            gates.token(0, 0, 8);
            gates.token(0, 1, 9);
            gates.token(1, 0, 10);
            Walk.show(gates, 0, Walk.row(0, last));
            check.due("token at last beam " + last, gates.body(0, 0, 3), last >= 4 ? 8 : -1);
            check.due("waiting at last beam " + last, gates.waiting(0, 0), last >= 4 ? 0 : 1);
            check.due("waiting on the other side", gates.waiting(0, 1), 1);
            check.due("waiting in the other lane", gates.waiting(1, 0), 1);
        }
        for (int first = 9; first > 0; first--) {
            PairedGates gates = new PairedGates();
            gates.token(0, 0, 8);
            gates.token(0, 1, 9);
            Walk.show(gates, 0, Walk.row(first, 9));
            check.due("token at first beam " + first, gates.body(0, 0, 3), first <= 5 ? 9 : -1);
            check.due("waiting at first beam " + first, gates.waiting(0, 1), first <= 5 ? 0 : 1);
            check.due("waiting on the other side", gates.waiting(0, 0), 1);
        }
        laterTokens();
    }

    private static void laterTokens() {
        PairedGates gates = shown(Walk.row(0, 5));
        check.due("no token yet", gates.body(0, 0, 3), -1);
        gates.token(0, 0, 0);
        gates.token(0, 0, 1);
        check.due("not before a tick", gates.body(0, 0, 3), -1);
        gates.ticks(1);
        check.due("account 0 is a token", gates.body(0, 0, 3), 0);
        gates.ticks(5);
        check.due("it keeps its token", gates.body(0, 0, 3), 0);
        check.due("and takes no second one", gates.waiting(0, 0), 1);
        Walk.showAll(gates, 0, 3, 1);
        check.due("it keeps it when it goes back", gates.body(0, 0, 3), 0);
        check.due("refunds()", gates.refunds(), 0);
    }

    private static void tokensInRowOrder() {
        PairedGates gates = shown(1, Walk.row(0, 9), 0b1110011000);
        gates.token(0, 0, 21);
        gates.ticks(1);
        dueRow("one token, the first in the row", gates,
                "3..4 side 0 token 21 length 10", "7..9 side 0 token -1 length 3");
        gates.token(0, 0, 20);
        gates.token(0, 0, 19);
        gates.ticks(1);
        dueRow("the oldest for the next one", gates,
                "3..4 side 0 token 21 length 10", "7..9 side 0 token 20 length 3");
        check.due("waits(0, 0, 0)", gates.waits(0, 0, 0), 19);
        PairedGates both = shown(1, Walk.row(0, 9), 0b1110011000);
        both.token(0, 0, 7);
        both.token(0, 0, 6);
        both.ticks(1);
        dueRow("two tokens at one tick", both,
                "3..4 side 0 token 7 length 10", "7..9 side 0 token 6 length 3");
    }

    private static void wrongArguments() {
        PairedGates gates = shown(0b1001);
        int[] wild = {Integer.MIN_VALUE, Integer.MAX_VALUE, -1, 2};
        for (int bad : wild) {
            check.dueThrow("bodies(" + bad + ")", Check.BOUNDS, () -> gates.bodies(bad));
            check.dueThrow("body(" + bad + ", 0, 0)", Check.BOUNDS, () -> gates.body(bad, 0, 0));
            check.dueThrow("body(0, " + bad + ", 0)", Check.BOUNDS, () -> gates.body(0, bad, 0));
            check.dueThrow("body(" + bad + ", 0, 5)", Check.BOUNDS, () -> gates.body(bad, 0, 5));
            check.dueThrow("body(0, " + bad + ", 5)", Check.BOUNDS, () -> gates.body(0, bad, 5));
        }
        for (int bad : new int[] {-1, 5, Integer.MIN_VALUE, Integer.MAX_VALUE}) {
            check.dueThrow("body(0, 1, " + bad + ")", Check.ARGUMENT, () -> gates.body(0, 1, bad));
        }
        check.dueThrow("body(1, 0, 0) of an empty lane", Check.BOUNDS, () -> gates.body(1, 0, 0));
        Walk.show(gates, 0, 0b1001001001);
        check.dueThrow("body(0, 4, 0) of a full lane", Check.BOUNDS, () -> gates.body(0, 4, 0));
    }
}
