/** The sentences of steps 4 to 6 of a TICK and of COUNTS: each one with its boundary, from both sides. */
public final class StepsFourToSixTest {
    private static final Check check = new Check();

    public static void main(String[] args) {
        lessThanFourBodies();
        roomOfOneThatLeaves();
        inItsPlaceByTheOrderOfBlobs();
        sideOfAnOldInterval();
        sideOfAnOldPlace();
        sideOfOneOfTheTickBefore();
        sideOfOneThatStays();
        sideByTheBeams();
        reachedOnSideZero();
        reachedOnSideOne();
        reachedNowNotOnce();
        hasNoTokenYet();
        eachBodyInTheRow();
        theOldestOfItsLaneAndSide();
        ifThereIsOne();
        alarmOpens();
        tokenOpens();
        angleBelow90();
        shutsWhenNeitherIsSo();
        angleAboveZero();
        beamsBetweenThePaddles();
        seenNotCovered();
        shutAtFirst();
        kindsOfThrough();
        lengthOfSix();
        check.end();
    }

    private static void dueRow(String name, PairedGates gates, String... bodies) {
        check.due(name, Walk.rowText(gates, 0), String.join("; ", bodies));
    }

    private static PairedGates shown(int... words) {
        PairedGates gates = new PairedGates();
        Walk.showAll(gates, 0, words);
        return gates;
    }

    private static final String FEW = "For each blob to which none went, as long as there are less than 4 bodies:"
            + " a body more, with the blob as its interval";

    private static void lessThanFourBodies() {
        check.sentence(FEW);
        PairedGates none = shown(0b1001001001);
        check.due("none was there, four blobs", Walk.intervals(none, 0), "0..0 3..3 6..6 9..9");
        PairedGates two = shown(0b1001000000, 0b1001001001);
        check.due("two were there, two blobs more", Walk.intervals(two, 0), "0..0 3..3 6..6 9..9");
        PairedGates three = shown(0b1001000001, 1023, Walk.row(2, 9), Walk.row(4, 9), Walk.row(6, 9));
        check.due("three", Walk.intervals(three, 0), "6..6 7..7 8..9");
        Walk.show(three, 0, Walk.row(6, 9) | 0b1001);
        check.due("three were there, two blobs more", Walk.intervals(three, 0), "0..0 6..6 7..7 8..9");
        Walk.show(three, 0, Walk.row(6, 9) | 0b1001);
        check.due("four are there", Walk.intervals(three, 0), "0..0 6..6 7..7 8..9");
        PairedGates four = shown(0b1001001001, 1023, Walk.row(1, 9), Walk.row(2, 9), Walk.row(3, 9));
        Walk.show(four, 0, Walk.row(3, 9) | 1);
        check.due("four were there, a blob more", Walk.intervals(four, 0), "3..3 4..5 6..7 8..9");
    }

    private static void roomOfOneThatLeaves() {
        check.sentence(FEW);
        PairedGates gates = shown(0b1001001001, 1023, 0b1001001001);
        check.due("four, and a blob of none", Walk.intervals(gates, 0), "0..0 3..3 6..6 6..6");
        gates.ticks(100);
        check.due("a hundred ticks later", Walk.intervals(gates, 0), "0..0 3..3 6..6 6..6");
        check.due("one leaves", Walk.show(gates, 0, 0b1001001000), 1);
        check.due("one comes at that tick", Walk.intervals(gates, 0), "3..3 6..6 6..6 9..9");
        PairedGates all = shown(0b1001001001, 0b1000000001, 0b0000010000);
        check.due("all leave, one comes", Walk.intervals(all, 0), "4..4");
    }

    private static void inItsPlaceByTheOrderOfBlobs() {
        check.sentence("in its place by the order of blobs");
        dueRow("before", shown(0b1000000000, 0b1000000001),
                "0..0 side 0 token -1 length 1", "9..9 side 1 token -1 length 1");
        dueRow("behind", shown(0b111, 0b1, 0b1000000001),
                "0..0 side 0 token -1 length 3", "9..9 side 1 token -1 length 1");
        dueRow("between", shown(0b1110000111, 0b1000000001, 0b1000100001),
                "0..0 side 0 token -1 length 3", "5..5 side 1 token -1 length 1", "9..9 side 1 token -1 length 3");
        dueRow("before, between and behind at once", shown(0b0001111000, 0b0000001000, 0b1001001001),
                "0..0 side 0 token -1 length 1", "3..3 side 1 token -1 length 4",
                "6..6 side 1 token -1 length 1", "9..9 side 1 token -1 length 1");
        dueRow("between two that share and one more", shown(0b1001000001, 1023, 0b1000001111, 0b1001001111),
                "0..1 side 0 token -1 length 3", "2..3 side 1 token -1 length 3",
                "6..6 side 1 token -1 length 1", "9..9 side 1 token -1 length 4");
    }

    private static void sideOfAnOldInterval() {
        check.sentence("Its side is that of the first body (of those before this tick, that did not leave) whose old"
                + " interval meets the blob");
        for (int last = 3; last <= 6; last++) {
            PairedGates gates = new PairedGates();
            Walk.walkTo(gates, 0, 0, 0, last);
            Walk.show(gates, 0, 0b0001000001);
            check.due("side of 6..6, one of side 0 was at 0.." + last, gates.body(0, 1, 2), last >= 5 ? 0 : 1);
        }
        for (int last = 0; last <= 5; last++) {
            PairedGates gates = new PairedGates();
            Walk.walkTo(gates, 0, 1, 0, last);
            Walk.show(gates, 0, 0b0000010001);
            check.due("side of 4..4, one of side 1 was at 0.." + last, gates.body(0, 1, 2), last >= 3 ? 1 : 0);
        }
        dueRow("the old interval, not the new one", shown(1, 1023, 0b1000000001),
                "0..0 side 0 token -1 length 10", "9..9 side 0 token -1 length 1");
        dueRow("of two old ones, the one that meets it", shown(0b1000000001, 0b1111000001, 0b1001000001),
                "0..0 side 0 token -1 length 1", "6..6 side 1 token -1 length 4", "9..9 side 1 token -1 length 1");
        dueRow("of two old ones, the first one meets it", shown(0b1000000001, 0b1000111111, 0b1001000001),
                "0..0 side 0 token -1 length 6", "6..6 side 0 token -1 length 1", "9..9 side 1 token -1 length 1");
    }

    private static void sideOfAnOldPlace() {
        check.sentence("of those before this tick");
        dueRow("a new one stands before it now", shown(512, Walk.row(3, 9), 0b0001001001),
                "0..0 side 0 token -1 length 1", "3..3 side 1 token -1 length 7", "6..6 side 1 token -1 length 1");
        dueRow("one that stood before it leaves", shown(0b1000000001, 0b1111110001, 0b0001001000),
                "3..3 side 1 token -1 length 6", "6..6 side 1 token -1 length 1");
    }

    private static void sideOfOneOfTheTickBefore() {
        check.sentence("of those before this tick");
        PairedGates gates = new PairedGates();
        Walk.flash(gates, 0, 1023, 0, 1023);
        dueRow("one came at this tick", gates, "0..9 side 1 token -1 length 10");
        Walk.flash(gates, 0, 0b1001);
        dueRow("the next tick gives its side on", gates,
                "0..0 side 1 token -1 length 10", "3..3 side 1 token -1 length 1");
        PairedGates gone = shown(512, 1023, 1);
        Walk.show(gone, 0, 0b1001);
        dueRow("an interval of two ticks before gives nothing on", gone,
                "0..0 side 1 token -1 length 10", "3..3 side 0 token -1 length 1");
    }

    private static void sideOfOneThatStays() {
        check.sentence("of those before this tick, that did not leave");
        for (int beam = 6; beam <= 8; beam++) {
            PairedGates gates = new PairedGates();
            Walk.walkTo(gates, 0, 0, 6, 6);
            int left = Walk.show(gates, 0, 1 << beam);
            check.due("how many leave for " + beam + ".." + beam, left, beam == 8 ? 1 : 0);
            check.due("side at " + beam + ".." + beam, gates.body(0, 0, 2), beam == 8 ? 1 : 0);
        }
    }

    private static void sideByTheBeams() {
        check.sentence("otherwise 0 if the blob's first and last beams add up to less than 9, 1 if not");
        for (int first = 0; first < 10; first++) {
            for (int last = first; last < 10; last++) {
                PairedGates gates = shown(Walk.row(first, last));
                check.due("side of " + first + ".." + last, gates.body(0, 0, 2), first + last < 9 ? 0 : 1);
            }
        }
        check.due("side of 4..4", shown(1 << 4).body(0, 0, 2), 0);
        check.due("side of 4..5", shown(3 << 4).body(0, 0, 2), 1);
        check.due("side of 5..5", shown(1 << 5).body(0, 0, 2), 1);
        check.due("side of 0..8", shown(Walk.row(0, 8)).body(0, 0, 2), 0);
        check.due("side of 0..9", shown(1023).body(0, 0, 2), 1);
    }

    private static PairedGates withTokens() {
        PairedGates gates = new PairedGates();
        gates.token(0, 0, 100);
        gates.token(0, 1, 101);
        gates.token(1, 0, 110);
        gates.token(1, 1, 111);
        return gates;
    }

    private static void reachedOnSideZero() {
        check.sentence("has REACHED the paddles (side 0: its last beam is at least 4");
        for (int last = 0; last <= 8; last++) {
            for (int lane = 0; lane < 2; lane++) {
                PairedGates gates = withTokens();
                Walk.show(gates, lane, Walk.row(0, last));
                check.due("token of 0.." + last, gates.body(lane, 0, 3), last >= 4 ? 100 + lane * 10 : -1);
                check.due("waiting on its side", gates.waiting(lane, 0), last >= 4 ? 0 : 1);
                check.due("waiting on the other side", gates.waiting(lane, 1), 1);
                check.due("waiting in the other lane", gates.waiting(1 - lane, 0), 1);
            }
        }
        PairedGates walks = withTokens();
        Walk.showAll(walks, 0, 1, 2, 4, 8);
        check.due("token of one that walks to 3..3", walks.body(0, 0, 3), -1);
        Walk.show(walks, 0, 16);
        check.due("token of one that walks to 4..4", walks.body(0, 0, 3), 100);
    }

    private static void reachedOnSideOne() {
        check.sentence("side 1: its first one at most 5");
        for (int first = 9; first >= 0; first--) {
            for (int lane = 0; lane < 2; lane++) {
                PairedGates gates = withTokens();
                Walk.show(gates, lane, Walk.row(first, 9));
                check.due("token of " + first + "..9", gates.body(lane, 0, 3), first <= 5 ? 101 + lane * 10 : -1);
                check.due("waiting on its side", gates.waiting(lane, 1), first <= 5 ? 0 : 1);
                check.due("waiting on the other side", gates.waiting(lane, 0), 1);
                check.due("waiting in the other lane", gates.waiting(1 - lane, 1), 1);
            }
        }
        PairedGates walks = withTokens();
        Walk.showAll(walks, 0, 512, 256, 128, 64);
        check.due("token of one that walks to 6..6", walks.body(0, 0, 3), -1);
        Walk.show(walks, 0, 32);
        check.due("token of one that walks to 5..5", walks.body(0, 0, 3), 101);
    }

    private static void reachedNowNotOnce() {
        check.sentence("Each body in the row that has no token and has REACHED the paddles");
        PairedGates gates = shown(Walk.row(0, 4), Walk.row(0, 3));
        gates.token(0, 0, 7);
        gates.ticks(5);
        check.due("token of one that went back before it came", gates.body(0, 0, 3), -1);
        Walk.show(gates, 0, Walk.row(0, 4));
        check.due("token when it is there again", gates.body(0, 0, 3), 7);
        PairedGates other = shown(Walk.row(5, 9), Walk.row(6, 9));
        other.token(0, 1, 7);
        other.ticks(5);
        check.due("token on side 1, gone back", other.body(0, 0, 3), -1);
        Walk.show(other, 0, Walk.row(5, 9));
        check.due("token on side 1, there again", other.body(0, 0, 3), 7);
    }

    private static void hasNoTokenYet() {
        check.sentence("Each body in the row that has no token");
        PairedGates gates = new PairedGates();
        gates.token(0, 0, 0);
        gates.token(0, 0, 1);
        Walk.show(gates, 0, Walk.row(0, 4));
        check.due("account 0 is a token", gates.body(0, 0, 3), 0);
        gates.ticks(150);
        check.due("the second one waits still", Walk.waitText(gates, 0, 0), "1");
        check.due("it has the first one still", gates.body(0, 0, 3), 0);
        gates.ticks(100);
        check.due("what a body has is not refunded", Walk.refundText(gates), "1");
        check.due("it has it after 252 ticks", gates.body(0, 0, 3), 0);
    }

    private static void eachBodyInTheRow() {
        check.sentence("Each body in the row");
        for (int tokens = 0; tokens <= 3; tokens++) {
            PairedGates gates = shown(1, 1023, 0b1110011000);
            for (int i = 0; i < tokens; i++) {
                gates.token(0, 0, 90 - i);
            }
            gates.ticks(1);
            check.due("token of the first, " + tokens + " wait", gates.body(0, 0, 3), tokens >= 1 ? 90 : -1);
            check.due("token of the second, " + tokens + " wait", gates.body(0, 1, 3), tokens >= 2 ? 89 : -1);
            check.due("waiting", gates.waiting(0, 0), Math.max(0, tokens - 2));
        }
        PairedGates second = shown(1, 1023, 0b1110001000);
        second.token(0, 0, 90);
        second.ticks(1);
        check.due("token of the first at 3..3", second.body(0, 0, 3), -1);
        check.due("token of the second", second.body(0, 1, 3), 90);
    }

    private static void theOldestOfItsLaneAndSide() {
        check.sentence("gets the oldest token that waits in its lane on its side");
        PairedGates gates = new PairedGates();
        gates.token(1, 0, 1);
        gates.token(0, 1, 2);
        gates.token(0, 0, 9);
        gates.ticks(1);
        gates.token(0, 0, 8);
        gates.token(0, 0, 7);
        Walk.show(gates, 0, Walk.row(0, 4));
        check.due("its token", gates.body(0, 0, 3), 9);
        check.due("what waits", Walk.waitText(gates, 0, 0), "8 7");
        PairedGates cancelled = new PairedGates();
        cancelled.token(0, 0, 9);
        cancelled.token(0, 0, 8);
        cancelled.cancel(0, 0);
        Walk.show(cancelled, 0, Walk.row(0, 4));
        check.due("its token behind a cancel", cancelled.body(0, 0, 3), 8);
    }

    private static void ifThereIsOne() {
        check.sentence("if there is one");
        PairedGates gates = new PairedGates();
        gates.token(0, 1, 1);
        gates.token(1, 0, 2);
        Walk.show(gates, 0, Walk.row(0, 5));
        check.due("none waits for it", gates.body(0, 0, 3), PairedGates.NONE);
        gates.token(0, 0, 3);
        check.due("one waits, no tick yet", gates.body(0, 0, 3), PairedGates.NONE);
        gates.ticks(1);
        check.due("a tick later", gates.body(0, 0, 3), 3);
        check.due("waiting(0, 0)", gates.waiting(0, 0), 0);
    }

    private static void duePaddles(String name, PairedGates gates, int lane, int order, int angle) {
        check.due(name + ": order", gates.order(lane), order);
        check.due(name + ": angle", gates.angle(lane), angle);
    }

    private static final String OPENS = "The paddles' ORDER is 2 if the alarm is on or some body of the lane has a"
            + " token, and their ANGLE is below 90";

    private static void alarmOpens() {
        check.sentence(OPENS);
        PairedGates gates = new PairedGates();
        gates.ticks(1);
        duePaddles("no alarm", gates, 0, 0, 0);
        gates.alarm(true);
        duePaddles("an alarm, no tick yet", gates, 0, 0, 0);
        gates.ticks(1);
        duePaddles("lane 0", gates, 0, 2, 2);
        duePaddles("lane 1", gates, 1, 2, 2);
        gates.beams(0, 1023);
        gates.ticks(2);
        duePaddles("somebody without a token is there", gates, 0, 2, 6);
    }

    private static void tokenOpens() {
        check.sentence("some body of the lane has a token");
        PairedGates gates = new PairedGates();
        gates.token(0, 0, 5);
        Walk.show(gates, 0, Walk.row(0, 3));
        duePaddles("a token waits", gates, 0, 0, 0);
        Walk.show(gates, 0, Walk.row(0, 4));
        duePaddles("a body has it", gates, 0, 2, 2);
        duePaddles("the other lane", gates, 1, 0, 0);
        Walk.show(gates, 0, 1);
        duePaddles("it goes back with it", gates, 0, 2, 6);
        PairedGates last = shown(0b1000000001, 0b1000001111);
        last.token(0, 1, 6);
        Walk.show(last, 0, 0b1111100001);
        dueRow("the last of the row has one", last,
                "0..0 side 0 token -1 length 4", "5..9 side 1 token 6 length 5");
        duePaddles("the last of the row has one", last, 0, 2, 2);
    }

    private static void angleBelow90() {
        check.sentence("and their ANGLE is below 90");
        PairedGates alarmed = new PairedGates();
        alarmed.alarm(true);
        duesAt90("alarm", alarmed);
        PairedGates paid = new PairedGates();
        paid.token(0, 0, 5);
        paid.beams(0, Walk.row(0, 4));
        paid.ticks(1);
        duesAt90("token", paid);
    }

    private static void duesAt90(String name, PairedGates gates) {
        gates.ticks(44);
        duePaddles(name + ", 44 ticks", gates, 0, 2, 88);
        gates.ticks(1);
        duePaddles(name + ", 45 ticks", gates, 0, 2, 90);
        gates.ticks(1);
        duePaddles(name + ", 46 ticks", gates, 0, 0, 90);
        gates.ticks(300);
        duePaddles(name + ", 346 ticks", gates, 0, 0, 90);
    }

    private static void shutsWhenNeitherIsSo() {
        check.sentence("-2 if neither is so");
        for (int reasons = 0; reasons < 4; reasons++) {
            PairedGates gates = new PairedGates();
            gates.alarm(true);
            gates.token(0, 0, 5);
            Walk.showAll(gates, 0, Walk.row(0, 4), 1);
            duePaddles("both are so", gates, 0, 2, 8);
            gates.alarm((reasons & 1) != 0);
            gates.beams(0, (reasons & 2) != 0 ? 1 : 0);
            gates.ticks(2);
            // Beam 0 is seen for one tick more when the word is 0: only at the second tick its body is gone.
            duePaddles("reasons " + reasons, gates, 0, reasons == 0 ? -2 : 2, reasons == 0 ? 8 : 12);
        }
        PairedGates open = new PairedGates();
        open.alarm(true);
        open.ticks(46);
        duePaddles("open", open, 0, 0, 90);
        open.alarm(false);
        open.ticks(1);
        duePaddles("open, and the alarm is off", open, 0, -2, 88);
        open.beams(0, 1);
        open.ticks(2);
        duePaddles("somebody without a token at beam 0", open, 0, -2, 84);
    }

    private static void angleAboveZero() {
        check.sentence("the angle is above 0");
        PairedGates gates = new PairedGates();
        gates.ticks(1);
        duePaddles("never open", gates, 0, 0, 0);
        gates.alarm(true);
        gates.ticks(2);
        gates.alarm(false);
        gates.ticks(1);
        duePaddles("4 less 2", gates, 0, -2, 2);
        gates.ticks(1);
        duePaddles("2 less 2", gates, 0, -2, 0);
        gates.ticks(1);
        duePaddles("shut", gates, 0, 0, 0);
        gates.ticks(300);
        duePaddles("shut for long", gates, 0, 0, 0);
    }

    private static void beamsBetweenThePaddles() {
        check.sentence("none of the beams 3 .. 6 is seen");
        for (int word = 0; word < 1024; word++) {
            PairedGates gates = new PairedGates();
            gates.alarm(true);
            Walk.show(gates, 1, word);
            gates.alarm(false);
            gates.ticks(1);
            boolean none = (word & 0b0001111000) == 0;
            duePaddles("word " + word, gates, 1, none ? -2 : 0, none ? 2 : 4);
            duePaddles("the other lane", gates, 0, -2, 2);
        }
        for (int beam = 0; beam < 10; beam++) {
            PairedGates gates = new PairedGates();
            gates.alarm(true);
            Walk.show(gates, 0, 1 << beam);
            gates.alarm(false);
            gates.ticks(300);
            boolean between = beam == 3 || beam == 4 || beam == 5 || beam == 6;
            duePaddles("beam " + beam + " for long", gates, 0, 0, between ? 4 : 0);
        }
    }

    private static void seenNotCovered() {
        check.sentence("none of the beams 3 .. 6 is seen");
        PairedGates gates = new PairedGates();
        gates.alarm(true);
        gates.ticks(5);
        gates.alarm(false);
        gates.beams(0, 1 << 4);
        gates.ticks(1);
        duePaddles("covered once, not seen", gates, 0, -2, 8);
        gates.ticks(1);
        duePaddles("covered twice, seen", gates, 0, 0, 8);
        gates.beams(0, 0);
        gates.ticks(1);
        duePaddles("not covered, seen still", gates, 0, 0, 8);
        gates.ticks(1);
        duePaddles("not seen", gates, 0, -2, 6);
        PairedGates shut = shown(1 << 4);
        duePaddles("shut, and somebody is there", shut, 0, 0, 0);
    }

    private static void shutAtFirst() {
        check.sentence("The angle (0 at first, shut) changes by the order");
        PairedGates gates = new PairedGates();
        duePaddles("at first", gates, 0, 0, 0);
        duePaddles("at first, lane 1", gates, 1, 0, 0);
        int angle = 0;
        for (int tick = 1; tick <= 100; tick++) {
            gates.alarm(tick % 7 < 5);
            gates.ticks(1);
            angle += gates.order(0);
            check.due("angle at tick " + tick, gates.angle(0), angle);
        }
        check.due("angle at tick 100", angle, 88);
    }

    /** One comes in, has so many beams at most, and goes through. */
    private static PairedGates through(int side, int beams, boolean token) {
        PairedGates gates = new PairedGates();
        if (token) {
            gates.token(0, side, 5);
        }
        for (int first = 0; first < 10; first++) {
            int last = Math.min(9, first + beams - 1);
            Walk.show(gates, 0, side == 0 ? Walk.row(first, last) : Walk.row(9 - last, 9 - first));
        }
        check.due("length", gates.body(0, 0, 4), beams);
        check.due("it leaves", Walk.show(gates, 0, 0), 1);
        return gates;
    }

    private static void kindsOfThrough() {
        check.sentence("COUNTS of a lane by KINDS: 0 gone THROUGH with a token, 1 without one");
        for (int side = 0; side < 2; side++) {
            check.due("with a token", Walk.countText(through(side, 2, true), 0), "1 0 0 0 0");
            check.due("without one", Walk.countText(through(side, 2, false), 0), "0 1 0 0 0");
            check.due("in the other lane", Walk.countText(through(side, 2, true), 1), "0 0 0 0 0");
        }
    }

    private static void lengthOfSix() {
        check.sentence("4 gone THROUGH with a LENGTH of 6 or more");
        for (int side = 0; side < 2; side++) {
            check.due("length 5, token", Walk.countText(through(side, 5, true), 0), "1 0 0 0 0");
            check.due("length 6, token", Walk.countText(through(side, 6, true), 0), "1 0 0 0 1");
            check.due("length 5", Walk.countText(through(side, 5, false), 0), "0 1 0 0 0");
            check.due("length 6", Walk.countText(through(side, 6, false), 0), "0 1 0 0 1");
            check.due("length 7", Walk.countText(through(side, 7, false), 0), "0 1 0 0 1");
        }
        check.due("length 7, turned", Walk.countText(shown(1, Walk.row(0, 6), 1, 0), 0), "0 0 1 0 0");
        check.due("length 7, lost", Walk.countText(shown(1, Walk.row(0, 6), Walk.row(3, 6), 0), 0), "0 0 0 1 0");
    }
}
