/** The sentences of steps 1 to 3 of a TICK: each one with its boundary, from both sides. */
public final class StepsOneToThreeTest {
    private static final Check check = new Check();

    public static void main(String[] args) {
        laneZeroFirst();
        waitedFor200Ticks();
        sideZeroAndTheOldestFirst();
        acceptedBetweenTwoTicks();
        refundedBeforeTokensAreHandedOut();
        goesToTheFirstBlobThatItMeets();
        leavesWhenItMeetsNone();
        thoseFirstInTheRowLeaveFirst();
        throughOnSideZero();
        turnedOnSideZero();
        lostOnSideZero();
        throughOnSideOne();
        turnedOnSideOne();
        lostOnSideOne();
        intervalOfTheTickBefore();
        tokenOfALeaver();
        sharesOfABlob();
        atLeastItsFirstBeam();
        check.end();
    }

    private static void laneZeroFirst() {
        check.sentence("A TICK does in each lane, lane 0 first");
        PairedGates gates = new PairedGates();
        for (int lane = 1; lane >= 0; lane--) {
            gates.token(lane, 0, 10 + lane);
            Walk.show(gates, lane, Walk.row(0, 4));
        }
        gates.token(1, 1, 21);
        gates.token(0, 1, 20);
        gates.ticks(198);
        gates.beams(0, 0);
        gates.beams(1, 0);
        gates.ticks(1);
        check.due("refunds one tick before", gates.refunds(), 0);
        check.due("both leave", gates.ticks(1), 2);
        check.due("all of lane 0, then lane 1", Walk.refundText(gates), "20 10 21 11");
    }

    private static void waitedFor200Ticks() {
        check.sentence("Tokens that have waited for 200 ticks are REFUNDED");
        for (int start : new int[] {0, 1, 5, 300}) {
            for (int place = 0; place < 4; place++) {
                PairedGates gates = new PairedGates();
                if (start > 0) {
                    gates.ticks(start);
                }
                gates.token(place / 2, place % 2, 7);
                gates.ticks(199);
                check.due("waiting after 199 ticks", Walk.waitText(gates, place / 2, place % 2), "7");
                check.due("refunds after 199 ticks", gates.refunds(), 0);
                gates.ticks(1);
                check.due("waiting after 200 ticks", gates.waiting(place / 2, place % 2), 0);
                check.due("refunds after 200 ticks", Walk.refundText(gates), "7");
                gates.ticks(300);
                check.due("refunds later", gates.refunds(), 1);
            }
        }
    }

    private static void sideZeroAndTheOldestFirst() {
        check.sentence("side 0 first, the oldest first");
        PairedGates gates = new PairedGates();
        gates.token(1, 1, 10);
        gates.token(1, 0, 12);
        gates.token(1, 0, 11);
        gates.token(1, 1, 9);
        gates.ticks(1);
        gates.token(1, 0, 8);
        gates.token(1, 1, 7);
        gates.ticks(199);
        check.due("at tick 200", Walk.refundText(gates), "12 11 10 9");
        check.due("side 0 at tick 200", Walk.waitText(gates, 1, 0), "8");
        check.due("side 1 at tick 200", Walk.waitText(gates, 1, 1), "7");
        gates.ticks(1);
        check.due("at tick 201", Walk.refundText(gates), "12 11 10 9 8 7");
    }

    private static void acceptedBetweenTwoTicks() {
        check.sentence("one that was accepted between tick 5 and tick 6 waits 1 tick at tick 6");
        PairedGates gates = new PairedGates();
        gates.ticks(5);
        gates.token(0, 1, 56);
        gates.ticks(1);
        gates.token(0, 1, 67);
        gates.ticks(198);
        check.due("both wait at tick 204", Walk.waitText(gates, 0, 1), "56 67");
        gates.ticks(1);
        check.due("one waits at tick 205", Walk.waitText(gates, 0, 1), "67");
        gates.ticks(1);
        check.due("none waits at tick 206", Walk.waitText(gates, 0, 1), "");
        check.due("time()", gates.time(), 206);
    }

    private static void refundedBeforeTokensAreHandedOut() {
        check.sentence("Tokens that have waited for 200 ticks are REFUNDED");
        for (int side = 0; side < 2; side++) {
            for (int tick = 199; tick <= 200; tick++) {
                PairedGates gates = new PairedGates();
                gates.token(0, side, 7);
                gates.ticks(tick - 2);
                Walk.show(gates, 0, side == 0 ? Walk.row(0, 4) : Walk.row(5, 9));
                check.due("token of one that comes at tick " + tick, gates.body(0, 0, 3), tick == 199 ? 7 : -1);
                check.due("refunds at tick " + tick, gates.refunds(), tick == 199 ? 0 : 1);
            }
        }
    }

    private static void dueRow(String name, PairedGates gates, String... bodies) {
        check.due(name, Walk.rowText(gates, 0), String.join("; ", bodies));
    }

    private static void goesToTheFirstBlobThatItMeets() {
        check.sentence("Each body goes to the first blob that its interval meets");
        PairedGates both = new PairedGates();
        Walk.walkTo(both, 0, 0, 3, 4);
        Walk.show(both, 0, 1 << 2 | 1 << 5);
        dueRow("3..4 meets 2..2 and 5..5", both,
                "2..2 side 0 token -1 length 5", "5..5 side 0 token -1 length 1");
        PairedGates second = new PairedGates();
        Walk.walkTo(second, 0, 0, 3, 4);
        Walk.show(second, 0, 1 << 1 | 1 << 5);
        dueRow("3..4 does not meet 1..1", second,
                "1..1 side 0 token -1 length 1", "5..5 side 0 token -1 length 5");
        PairedGates four = new PairedGates();
        Walk.walkTo(four, 0, 0, 0, 9);
        Walk.show(four, 0, 0b1001001001);
        dueRow("0..9 meets all four", four,
                "0..0 side 0 token -1 length 10", "3..3 side 0 token -1 length 1",
                "6..6 side 0 token -1 length 1", "9..9 side 0 token -1 length 1");
    }

    private static void leavesWhenItMeetsNone() {
        check.sentence("a body that meets none LEAVES");
        for (int step = -2; step <= 2; step++) {
            PairedGates gates = new PairedGates();
            Walk.walkTo(gates, 0, 0, 4, 4);
            int left = Walk.show(gates, 0, 1 << 4 + step);
            check.due("how many leave, " + step + " beams on", left, Math.abs(step) == 2 ? 1 : 0);
            check.due("bodies(0), " + step + " beams on", gates.bodies(0), 1);
            check.due("length, " + step + " beams on", gates.body(0, 0, 4), Math.abs(step) == 2 ? 1 : 5);
        }
        PairedGates alone = new PairedGates();
        Walk.show(alone, 1, 1);
        check.due("no blob is left", Walk.show(alone, 1, 0), 1);
        check.due("bodies(1)", alone.bodies(1), 0);
    }

    private static void thoseFirstInTheRowLeaveFirst() {
        check.sentence("those first in the row first");
        PairedGates gates = new PairedGates();
        Walk.walkTo(gates, 0, 0, 0, 9);
        Walk.show(gates, 0, 0b0001001000);
        gates.token(0, 0, 51);
        gates.ticks(1);
        gates.token(0, 0, 52);
        Walk.show(gates, 0, 0b0001111000);
        dueRow("the second one has the older token", gates,
                "3..4 side 0 token 52 length 10", "5..6 side 0 token 51 length 2");
        check.due("both leave", Walk.show(gates, 0, 0), 2);
        check.due("by the row, not by the tokens", Walk.refundText(gates), "52 51");
    }

    /** One comes in on a side, stands at an interval at last and leaves: the counts of kinds 0 to 3. */
    private static String countsOf(int side, int first, int last) {
        PairedGates gates = new PairedGates();
        Walk.walkTo(gates, 0, side, first, last);
        check.due("side of " + first + ".." + last, gates.body(0, 0, 2), side);
        check.due("where it stands", Walk.intervals(gates, 0), first + ".." + last);
        check.due("it leaves", Walk.show(gates, 0, 0), 1);
        return Walk.countText(gates, 0).substring(0, 7);
    }

    private static void dueKind(String counts, int side, int[][] intervals) {
        for (int[] interval : intervals) {
            check.due("counts of side " + side + ", " + interval[0] + ".." + interval[1],
                    countsOf(side, interval[0], interval[1]), counts);
        }
    }

    private static final String THROUGH = "0 1 0 0";
    private static final String TURNED = "0 0 1 0";
    private static final String LOST = "0 0 0 1";

    private static void throughOnSideZero() {
        check.sentence("on side 0 it has gone THROUGH if the last beam of its interval is 7, 8 or 9");
        dueKind(THROUGH, 0, new int[][] {{7, 7}, {8, 8}, {9, 9}, {3, 7}, {2, 7}, {0, 7}, {0, 8}, {0, 9}, {6, 8}});
        dueKind(TURNED, 0, new int[][] {{0, 6}, {2, 6}});
        dueKind(LOST, 0, new int[][] {{3, 6}, {6, 6}});
    }

    private static void turnedOnSideZero() {
        check.sentence("otherwise TURNED back if the first one is 0, 1 or 2");
        dueKind(TURNED, 0, new int[][] {{0, 0}, {1, 1}, {2, 2}, {0, 3}, {1, 5}, {2, 6}});
        dueKind(LOST, 0, new int[][] {{3, 3}, {3, 4}, {3, 6}});
    }

    private static void lostOnSideZero() {
        check.sentence("otherwise it is LOST");
        dueKind(LOST, 0, new int[][] {{3, 3}, {4, 4}, {5, 5}, {6, 6}, {3, 6}, {4, 5}});
        dueKind(TURNED, 0, new int[][] {{2, 3}});
        dueKind(THROUGH, 0, new int[][] {{6, 7}});
    }

    private static void throughOnSideOne() {
        check.sentence("on side 1 THROUGH if the first one is 0, 1, 2");
        dueKind(THROUGH, 1, new int[][] {{2, 2}, {1, 1}, {0, 0}, {2, 6}, {2, 7}, {2, 9}, {1, 9}, {0, 9}, {1, 3}});
        dueKind(TURNED, 1, new int[][] {{3, 9}, {3, 7}});
        dueKind(LOST, 1, new int[][] {{3, 6}, {3, 3}});
    }

    private static void turnedOnSideOne() {
        check.sentence("otherwise TURNED if the last one is 7, 8, 9");
        dueKind(TURNED, 1, new int[][] {{9, 9}, {8, 8}, {7, 7}, {6, 9}, {4, 8}, {3, 7}});
        dueKind(LOST, 1, new int[][] {{6, 6}, {5, 6}, {3, 6}});
    }

    private static void lostOnSideOne() {
        check.sentence("otherwise LOST");
        dueKind(LOST, 1, new int[][] {{3, 3}, {4, 4}, {5, 5}, {6, 6}, {3, 6}, {4, 5}});
        dueKind(TURNED, 1, new int[][] {{6, 7}});
        dueKind(THROUGH, 1, new int[][] {{2, 3}});
    }

    private static void intervalOfTheTickBefore() {
        check.sentence("the last beam of its interval");
        int stands = 0b0001100000;
        int longer = 0b0011100000;
        int beam = 0b0010000000;
        PairedGates grows = new PairedGates();
        Walk.walkTo(grows, 0, 0, 5, 6);
        // Beam 7 is covered at two ticks that are two apart: it is seen at the later one alone.
        Walk.flash(grows, 0, longer, stands, beam);
        check.due("where it stands for one tick", Walk.intervals(grows, 0), "5..7");
        check.due("it leaves", Walk.flash(grows, 0, 0), 1);
        check.due("counts", Walk.countText(grows, 0), "0 1 0 0 1");
        PairedGates shrinks = new PairedGates();
        Walk.walkTo(shrinks, 0, 0, 5, 7);
        Walk.flash(shrinks, 0, stands, 0);
        check.due("where it stands for one tick", Walk.intervals(shrinks, 0), "5..6");
        check.due("it leaves", Walk.flash(shrinks, 0, 0), 1);
        check.due("counts", Walk.countText(shrinks, 0), "0 0 0 1 0");
    }

    /** As countsOf, but it has the whole row once, and so the token. */
    private static PairedGates leftWithToken(int side, int first, int last) {
        PairedGates gates = new PairedGates();
        gates.token(0, side, 70);
        gates.token(0, side, 71);
        Walk.walkTo(gates, 0, side, 0, 9);
        Walk.show(gates, 0, Walk.row(first, last));
        check.due("its token", gates.body(0, 0, 3), 70);
        Walk.show(gates, 0, 0);
        check.due("what waits still", Walk.waitText(gates, 0, side), "71");
        return gates;
    }

    private static void tokenOfALeaver() {
        check.sentence("Its token, if it did not go through, is REFUNDED");
        int[][] places = {{0, 0, 6}, {0, 0, 7}, {0, 3, 6}, {0, 6, 7}, {1, 3, 9}, {1, 2, 9}, {1, 3, 6}, {1, 2, 3}};
        String[] refunds = {"70", "", "70", "", "70", "", "70", ""};
        String[] counts = {"0 0 1 0 0", "1 0 0 0 1", "0 0 0 1 0", "1 0 0 0 1",
            "0 0 1 0 0", "1 0 0 0 1", "0 0 0 1 0", "1 0 0 0 1"};
        for (int i = 0; i < places.length; i++) {
            PairedGates gates = leftWithToken(places[i][0], places[i][1], places[i][2]);
            String name = "side " + places[i][0] + ", " + places[i][1] + ".." + places[i][2];
            check.due("refunds of " + name, Walk.refundText(gates), refunds[i]);
            check.due("counts of " + name, Walk.countText(gates, 0), counts[i]);
        }
        PairedGates without = new PairedGates();
        Walk.walkTo(without, 0, 0, 3, 6);
        Walk.show(without, 0, 0);
        check.due("refunds of one that has none", without.refunds(), 0);
    }

    private static final int[] ROWS_OF = {0, 0b0000000001, 0b1000000001, 0b1000010001, 0b1001001001};

    private static void sharesOfABlob() {
        check.sentence("body j = 0 .. k - 1, in their row, gets the interval from a + j * n / k (whole) to"
                + " a + (j + 1) * n / k - 1");
        for (int k = 1; k <= 4; k++) {
            for (int way = 0; way < 3; way++) {
                shrinkingBlob(k, way);
            }
        }
    }

    /** All ten beams, then one less at an end, and so on: nobody can leave, and all share each blob. */
    private static void shrinkingBlob(int k, int way) {
        PairedGates gates = new PairedGates();
        Walk.show(gates, 0, ROWS_OF[k]);
        int first = 0;
        int last = 9;
        while (first <= last) {
            Walk.show(gates, 0, Walk.row(first, last));
            check.due(k + " bodies, blob " + first + ".." + last, Walk.intervals(gates, 0), shares(k, first, last));
            boolean fromLeft = way == 0 || way == 1 && (last - first) % 2 == 0;
            first += fromLeft ? 1 : 0;
            last -= fromLeft ? 0 : 1;
        }
        for (int i = 0; i < k; i++) {
            check.due("side of body " + i + " of " + k, gates.body(0, i, 2), i * 2 < k || k == 3 && i == 1 ? 0 : 1);
        }
    }

    private static String shares(int k, int first, int last) {
        int n = last - first + 1;
        StringBuilder text = new StringBuilder();
        for (int j = 0; j < k; j++) {
            int from = first + j * n / k;
            int to = first + (j + 1) * n / k - 1;
            text.append(j == 0 ? "" : " ").append(from).append("..").append(to < from ? from : to);
        }
        return text.toString();
    }

    private static void atLeastItsFirstBeam() {
        check.sentence("but at least its first beam");
        dueShares("4..4 4..4", 2, 4, 4);
        dueShares("4..4 5..5", 2, 4, 5);
        dueShares("4..4 4..4 4..4", 3, 4, 4);
        dueShares("4..4 4..4 5..5", 3, 4, 5);
        dueShares("4..4 5..5 6..6", 3, 4, 6);
        dueShares("4..4 4..4 4..4 4..4", 4, 4, 4);
        dueShares("4..4 4..4 5..5 5..5", 4, 4, 5);
        dueShares("4..4 4..4 5..5 6..6", 4, 4, 6);
        dueShares("4..4 5..5 6..6 7..7", 4, 4, 7);
    }

    private static void dueShares(String due, int k, int first, int last) {
        PairedGates gates = new PairedGates();
        Walk.showAll(gates, 0, ROWS_OF[k], 1023);
        for (int from = 1; from <= first; from++) {
            Walk.show(gates, 0, Walk.row(from, 9));
        }
        for (int to = 8; to >= last; to--) {
            Walk.show(gates, 0, Walk.row(first, to));
        }
        check.due(k + " bodies, blob " + first + ".." + last, Walk.intervals(gates, 0), due);
    }
}
