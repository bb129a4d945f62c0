/** The sentences of promises 1 to 19 that name a boundary case: each one from both sides. */
public final class PromisesTest {
    private static final Check check = new Check();

    public static void main(String[] args) {
        newObject();
        tenLowestBits();
        soManyTicks();
        howManyLeft();
        modesOfALane();
        closedByTheMode();
        repeatedForLessThan300Ticks();
        repeatedInAnyLane();
        repeatedByTheLatest();
        fullIfSixWait();
        roomAgain();
        acceptedWaits();
        firstAnswerWins();
        refusedTokensLeaveNoTrace();
        cancelOfTheOldest();
        cancelOfNone();
        modeRefunds();
        modeRefundsInOrder();
        modeOfAnEmptyLane();
        alarmOnOrOff();
        timeOfTicks();
        bodiesOfALane();
        bodyOfTheRow();
        whatOfABody();
        waitingTokens();
        waitsFromTheOldestOn();
        countOfAKind();
        orderOfTheLatestTick();
        seenAtTheLatestTick();
        acceptedInAll();
        refundsThereAre();
        refundOfNoSuchIndex();
        check.end();
    }

    private static PairedGates shown(int... words) {
        PairedGates gates = new PairedGates();
        Walk.showAll(gates, 0, words);
        return gates;
    }

    private static void newObject() {
        check.sentence("No ticks yet; lanes empty, mode 0, paddles shut, no tokens, no alarm");
        String lane = " | bodies 0: , waiting 0: , waiting 0: , counts 0 0 0 0 0, angle 0, order 0, seen 0";
        String both = ", accepted 0, refunds 0: " + lane + lane;
        check.due("a new object", Walk.stateText(new PairedGates()), "time 0" + both);
        PairedGates gates = new PairedGates();
        gates.ticks(300);
        check.due("300 ticks later", Walk.stateText(gates), "time 300" + both);
        for (int place = 0; place < 4; place++) {
            check.due("token in mode 0", gates.token(place / 2, place % 2, place), PairedGates.ACCEPTED);
        }
    }

    private static void tenLowestBits() {
        check.sentence("Tells a lane's word, of which the ten lowest bits count");
        int[] words = {1 << 9, 1 << 10, 1 << 9 | 1 << 10, 1023, 1024, 1025, -1, -1024, Integer.MIN_VALUE,
            Integer.MAX_VALUE, 0};
        int[] due = {512, 0, 512, 1023, 0, 1, 1023, 0, 0, 1023, 0};
        for (int i = 0; i < words.length; i++) {
            PairedGates gates = shown(words[i]);
            check.due("seen of word " + words[i], gates.seen(0), due[i]);
            check.due("bodies of word " + words[i], gates.bodies(0), due[i] == 0 ? 0 : 1);
        }
    }

    private static void soManyTicks() {
        check.sentence("n is not 1 .. 300");
        for (int n : new int[] {1, 2, 299, 300}) {
            PairedGates gates = new PairedGates();
            check.due("ticks(" + n + ")", gates.ticks(n), 0);
            check.due("time() after ticks(" + n + ")", gates.time(), n);
        }
        for (int n : new int[] {Integer.MIN_VALUE, -300, -1, 0, 301, 302, Integer.MAX_VALUE}) {
            PairedGates gates = new PairedGates();
            check.dueThrow("ticks(" + n + ")", Check.ARGUMENT, () -> gates.ticks(n));
            check.due("time() after ticks(" + n + ")", gates.time(), 0);
        }
    }

    private static void howManyLeft() {
        check.sentence("So many TICKS: how many bodies left in them");
        PairedGates gates = new PairedGates();
        gates.beams(0, 0b1001001001);
        gates.beams(1, 0b1001001001);
        check.due("eight come", gates.ticks(2), 0);
        gates.beams(0, 0);
        gates.beams(1, 0);
        check.due("one tick: all are seen still", gates.ticks(1), 0);
        check.due("one tick: eight leave", gates.ticks(1), 8);
        check.due("one tick: nobody is there", gates.ticks(1), 0);
        PairedGates two = shown(1, 512);
        check.due("one leaves and another comes", two.bodies(0), 1);
        two.beams(0, 1);
        check.due("the other leaves within 300 ticks", two.ticks(300), 1);
    }

    private static void modesOfALane() {
        check.sentence("MODES of a lane: 0 tokens of both sides, 1 of side 0, 2 of side 1, 3 none; 0 at first");
        String[] due = {"0 0", "0 1", "1 0", "1 1"};
        PairedGates first = new PairedGates();
        check.due("at first", first.token(1, 0, 1) + " " + first.token(1, 1, 2), due[0]);
        for (int mode = 0; mode < 4; mode++) {
            PairedGates gates = new PairedGates();
            gates.mode(0, 3 - mode);
            gates.mode(0, mode);
            check.due("in mode " + mode, gates.token(0, 0, 1) + " " + gates.token(0, 1, 2), due[mode]);
            Walk.walkTo(gates, 0, 0, 0, 9);
            boolean token = mode == 0 || mode == 1;
            check.due("one of side 0 walks in mode " + mode, gates.body(0, 0, 3), token ? 1 : PairedGates.NONE);
            Walk.show(gates, 0, 0);
            check.due("and goes through", Walk.countText(gates, 0), token ? "1 0 0 0 1" : "0 1 0 0 1");
        }
    }

    private static void closedByTheMode() {
        check.sentence("CLOSED if the lane's mode has none of that side");
        int a = PairedGates.ACCEPTED;
        int c = PairedGates.CLOSED;
        int[][] due = {{a, a}, {a, c}, {c, a}, {c, c}};
        for (int mode = 0; mode < 4; mode++) {
            for (int place = 0; place < 4; place++) {
                PairedGates gates = new PairedGates();
                int lane = place / 2;
                int side = place % 2;
                gates.mode(lane, mode);
                check.due("token in mode " + mode + ", side " + side, gates.token(lane, side, 3), due[mode][side]);
                check.due("waiting", gates.waiting(lane, side), due[mode][side] == a ? 1 : 0);
                check.due("token in the other lane", gates.token(1 - lane, side, 4), a);
            }
        }
    }

    private static final String REPEATED =
            "otherwise REPEATED if one of that account was accepted less than 300 ticks ago, in any lane";

    private static void repeatedForLessThan300Ticks() {
        check.sentence(REPEATED);
        for (int start : new int[] {0, 1, 300}) {
            for (int later : new int[] {0, 1, 199, 200, 299, 300, 301}) {
                PairedGates gates = new PairedGates();
                tick(gates, start);
                gates.token(0, 0, 5);
                tick(gates, later);
                int due = later < 300 ? PairedGates.REPEATED : PairedGates.ACCEPTED;
                check.due("token again, " + later + " ticks later", gates.token(0, 0, 5), due);
            }
        }
        PairedGates gates = new PairedGates();
        check.due("the first token of account 0 at time 0", gates.token(0, 0, 0), PairedGates.ACCEPTED);
        check.due("another account", gates.token(0, 0, 1), PairedGates.ACCEPTED);
    }

    private static void tick(PairedGates gates, int n) {
        for (int left = n; left > 0; left -= 300) {
            gates.ticks(Math.min(left, 300));
        }
    }

    private static void repeatedInAnyLane() {
        check.sentence(REPEATED);
        for (int from = 0; from < 4; from++) {
            for (int to = 0; to < 4; to++) {
                PairedGates gates = new PairedGates();
                gates.token(from / 2, from % 2, 5);
                gates.ticks(299);
                check.due("299 ticks later", gates.token(to / 2, to % 2, 5), PairedGates.REPEATED);
                gates.ticks(1);
                check.due("300 ticks later", gates.token(to / 2, to % 2, 5), PairedGates.ACCEPTED);
            }
        }
        PairedGates walked = new PairedGates();
        walked.token(0, 0, 5);
        Walk.walkTo(walked, 0, 0, 0, 9);
        check.due("it was taken", walked.body(0, 0, 3), 5);
        check.due("one that a body has", walked.token(1, 0, 5), PairedGates.REPEATED);
        Walk.show(walked, 0, 0);
        check.due("one that went through", walked.token(0, 0, 5), PairedGates.REPEATED);
        PairedGates closed = new PairedGates();
        closed.token(0, 0, 5);
        closed.cancel(0, 0);
        check.due("one that was cancelled", closed.token(1, 1, 5), PairedGates.REPEATED);
        closed.token(0, 0, 6);
        closed.mode(0, 3);
        check.due("one that a mode refunded", closed.token(1, 1, 6), PairedGates.REPEATED);
    }

    private static void repeatedByTheLatest() {
        check.sentence(REPEATED);
        PairedGates gates = new PairedGates();
        gates.token(0, 0, 5);
        gates.ticks(300);
        check.due("300 ticks after the first", gates.token(0, 0, 5), PairedGates.ACCEPTED);
        check.due("at once", gates.token(0, 0, 5), PairedGates.REPEATED);
        gates.ticks(299);
        check.due("299 ticks after the second", gates.token(0, 0, 5), PairedGates.REPEATED);
        gates.ticks(1);
        check.due("300 ticks after the second", gates.token(0, 0, 5), PairedGates.ACCEPTED);
        check.due("accepted()", gates.accepted(), 3);
    }

    private static void fullIfSixWait() {
        check.sentence("otherwise FULL if 6 wait there");
        for (int place = 0; place < 4; place++) {
            PairedGates gates = new PairedGates();
            for (int i = 0; i < 6; i++) {
                check.due("token, " + i + " wait", gates.token(place / 2, place % 2, i), PairedGates.ACCEPTED);
            }
            check.due("token, 6 wait", gates.token(place / 2, place % 2, 6), PairedGates.FULL);
            check.due("what waits", Walk.waitText(gates, place / 2, place % 2), "0 1 2 3 4 5");
            check.due("on the other side", gates.token(place / 2, 1 - place % 2, 7), PairedGates.ACCEPTED);
            check.due("in the other lane", gates.token(1 - place / 2, place % 2, 8), PairedGates.ACCEPTED);
            check.due("accepted()", gates.accepted(), 8);
        }
    }

    private static PairedGates withSix() {
        PairedGates gates = new PairedGates();
        for (int i = 0; i < 6; i++) {
            gates.token(0, 0, i);
        }
        return gates;
    }

    private static void dueRoom(String name, PairedGates gates, String waits) {
        check.due(name + ": token", gates.token(0, 0, 6), PairedGates.ACCEPTED);
        check.due(name + ": what waits", Walk.waitText(gates, 0, 0), waits);
    }

    private static void roomAgain() {
        check.sentence("otherwise FULL if 6 wait there");
        PairedGates cancelled = withSix();
        cancelled.cancel(0, 0);
        dueRoom("a cancel", cancelled, "1 2 3 4 5 6");
        check.due("full again", cancelled.token(0, 0, 7), PairedGates.FULL);
        PairedGates taken = withSix();
        Walk.show(taken, 0, Walk.row(0, 4));
        dueRoom("a body has one", taken, "1 2 3 4 5 6");
        PairedGates expired = withSix();
        expired.ticks(199);
        check.due("199 ticks", expired.token(0, 0, 6), PairedGates.FULL);
        expired.ticks(1);
        dueRoom("200 ticks", expired, "6");
        PairedGates changed = withSix();
        changed.mode(0, 2);
        changed.mode(0, 0);
        dueRoom("a mode refunded all", changed, "6");
    }

    private static void acceptedWaits() {
        check.sentence("otherwise ACCEPTED: it waits");
        for (int place = 0; place < 4; place++) {
            PairedGates gates = new PairedGates();
            check.due("account 0", gates.token(place / 2, place % 2, 0), PairedGates.ACCEPTED);
            int largest = Integer.MAX_VALUE;
            check.due("the largest account", gates.token(place / 2, place % 2, largest), PairedGates.ACCEPTED);
            check.due("what waits", Walk.waitText(gates, place / 2, place % 2), "0 " + largest);
            check.due("accepted()", gates.accepted(), 2);
        }
    }

    private static void firstAnswerWins() {
        check.sentence("CLOSED if the lane's mode has none of that side; otherwise REPEATED");
        PairedGates gates = withSix();
        check.due("repeated and full", gates.token(0, 0, 5), PairedGates.REPEATED);
        check.due("full alone", gates.token(0, 0, 6), PairedGates.FULL);
        gates.mode(1, 3);
        check.due("closed and repeated", gates.token(1, 0, 5), PairedGates.CLOSED);
        check.due("closed alone", gates.token(1, 0, 6), PairedGates.CLOSED);
        gates.mode(1, 0);
        check.due("repeated alone", gates.token(1, 0, 5), PairedGates.REPEATED);
        check.due("none of them", gates.token(1, 0, 6), PairedGates.ACCEPTED);
    }

    private static void refusedTokensLeaveNoTrace() {
        check.sentence("Offers a token of an account");
        PairedGates gates = withSix();
        gates.mode(1, 3);
        String before = Walk.stateText(gates);
        check.due("full", gates.token(0, 0, 6), PairedGates.FULL);
        check.due("closed", gates.token(1, 0, 7), PairedGates.CLOSED);
        check.due("repeated", gates.token(0, 1, 0), PairedGates.REPEATED);
        check.due("the state", Walk.stateText(gates), before);
        check.due("the one that found it full", gates.token(0, 1, 6), PairedGates.ACCEPTED);
        check.due("the one that found it closed", gates.token(0, 1, 7), PairedGates.ACCEPTED);
        gates.ticks(299);
        check.due("the repeated one, 299 ticks", gates.token(0, 1, 0), PairedGates.REPEATED);
        gates.ticks(1);
        check.due("the repeated one, 300 ticks after the first", gates.token(0, 1, 0), PairedGates.ACCEPTED);
    }

    private static void cancelOfTheOldest() {
        check.sentence("The oldest token that waits there is REFUNDED: its account");
        for (int place = 0; place < 4; place++) {
            PairedGates gates = new PairedGates();
            gates.token(place / 2, place % 2, 9);
            gates.token(place / 2, place % 2, 0);
            gates.token(place / 2, 1 - place % 2, 3);
            gates.token(1 - place / 2, place % 2, 4);
            check.due("cancel", gates.cancel(place / 2, place % 2), 9);
            check.due("what waits", Walk.waitText(gates, place / 2, place % 2), "0");
            check.due("cancel", gates.cancel(place / 2, place % 2), 0);
            check.due("the refunds", Walk.refundText(gates), "9 0");
            check.due("what waits on the other side", Walk.waitText(gates, place / 2, 1 - place % 2), "3");
            check.due("what waits in the other lane", Walk.waitText(gates, 1 - place / 2, place % 2), "4");
            check.due("accepted()", gates.accepted(), 4);
        }
    }

    private static void cancelOfNone() {
        check.sentence("NONE if none waits");
        PairedGates gates = new PairedGates();
        check.due("cancel at first", gates.cancel(0, 0), PairedGates.NONE);
        gates.token(0, 0, 1);
        check.due("cancel on the other side", gates.cancel(0, 1), PairedGates.NONE);
        check.due("cancel in the other lane", gates.cancel(1, 0), PairedGates.NONE);
        check.due("refunds()", gates.refunds(), 0);
        Walk.show(gates, 0, Walk.row(0, 4));
        check.due("cancel of one that a body has", gates.cancel(0, 0), PairedGates.NONE);
        check.due("the body has it still", gates.body(0, 0, 3), 1);
        gates.token(0, 1, 2);
        check.due("cancel of the only one", gates.cancel(0, 1), 2);
        check.due("cancel once more", gates.cancel(0, 1), PairedGates.NONE);
        check.due("refunds", Walk.refundText(gates), "2");
    }

    private static PairedGates withTokens() {
        PairedGates gates = new PairedGates();
        gates.token(0, 1, 10);
        gates.token(0, 0, 12);
        gates.token(0, 1, 9);
        gates.token(0, 0, 11);
        gates.token(0, 1, 8);
        gates.token(1, 0, 20);
        gates.token(1, 1, 21);
        return gates;
    }

    private static void modeRefunds() {
        check.sentence("tokens that wait on a side that it does not have are REFUNDED");
        String[] zero = {"12 11", "12 11", "", ""};
        String[] one = {"10 9 8", "", "10 9 8", ""};
        int[] refunded = {0, 3, 2, 5};
        for (int mode = 0; mode < 4; mode++) {
            PairedGates gates = withTokens();
            check.due("mode(0, " + mode + ")", gates.mode(0, mode), refunded[mode]);
            check.due("side 0 in mode " + mode, Walk.waitText(gates, 0, 0), zero[mode]);
            check.due("side 1 in mode " + mode, Walk.waitText(gates, 0, 1), one[mode]);
            check.due("the other lane", Walk.waitText(gates, 1, 0) + " " + Walk.waitText(gates, 1, 1), "20 21");
            check.due("refunds()", gates.refunds(), refunded[mode]);
            check.due("the same mode again", gates.mode(0, mode), 0);
            check.due("mode 0 again", gates.mode(0, 0), 0);
            check.due("a token of side 0", gates.token(0, 0, 30), PairedGates.ACCEPTED);
            check.due("a token of side 1", gates.token(0, 1, 31), PairedGates.ACCEPTED);
        }
    }

    private static void modeRefundsInOrder() {
        check.sentence("side 0 first, the oldest first: how many");
        PairedGates gates = withTokens();
        check.due("mode(0, 3)", gates.mode(0, 3), 5);
        check.due("refunds", Walk.refundText(gates), "12 11 10 9 8");
        check.due("mode(1, 3)", gates.mode(1, 3), 2);
        check.due("refunds", Walk.refundText(gates), "12 11 10 9 8 20 21");
        PairedGates most = new PairedGates();
        for (int i = 0; i < 12; i++) {
            most.token(0, i / 6, i);
        }
        check.due("mode(0, 3) of twelve", most.mode(0, 3), 12);
        check.due("refunds", Walk.refundText(most), "0 1 2 3 4 5 6 7 8 9 10 11");
    }

    private static void modeOfAnEmptyLane() {
        check.sentence("IllegalState: the lane has bodies");
        for (int bodies = 0; bodies <= 4; bodies++) {
            PairedGates gates = shown(0b1001001001 & Walk.row(0, 3 * bodies - 1));
            check.due("bodies(0)", gates.bodies(0), bodies);
            String due = bodies == 0 ? "nothing" : Check.STATE;
            for (int mode = 0; mode < 4; mode++) {
                int asked = mode;
                check.dueThrow("mode(0, " + mode + "), " + bodies + " bodies", due, () -> gates.mode(0, asked));
                check.dueThrow("mode(1, " + mode + "), the other lane", "nothing", () -> gates.mode(1, asked));
            }
        }
        PairedGates gates = new PairedGates();
        gates.beams(0, 1);
        gates.ticks(1);
        check.due("a beam is covered, not seen", gates.mode(0, 1), 0);
        gates.ticks(1);
        check.dueThrow("a body is there", Check.STATE, () -> gates.mode(0, 2));
        gates.beams(0, 0);
        gates.ticks(1);
        check.dueThrow("a body is there still", Check.STATE, () -> gates.mode(0, 2));
        gates.ticks(1);
        check.due("it is gone", gates.mode(0, 2), 0);
    }

    private static void alarmOnOrOff() {
        check.sentence("The alarm is on, or off");
        boolean[][] calls = {{}, {true}, {false}, {true, true}, {true, false}, {false, true}, {true, true, false}};
        for (boolean[] said : calls) {
            PairedGates gates = new PairedGates();
            for (boolean on : said) {
                gates.alarm(on);
            }
            boolean on = said.length > 0 && said[said.length - 1];
            gates.ticks(10);
            check.due("angle(0)", gates.angle(0), on ? 20 : 0);
            check.due("angle(1)", gates.angle(1), on ? 20 : 0);
        }
    }

    private static void timeOfTicks() {
        check.sentence("How many ticks there were");
        PairedGates gates = new PairedGates();
        check.due("time() at first", gates.time(), 0);
        gates.ticks(1);
        check.due("time() after 1", gates.time(), 1);
        gates.ticks(300);
        check.due("time() after 1 and 300", gates.time(), 301);
        gates.token(0, 0, 1);
        gates.cancel(0, 0);
        gates.beams(0, 3);
        gates.mode(0, 1);
        gates.alarm(true);
        check.due("time() after other calls", gates.time(), 301);
    }

    private static void bodiesOfALane() {
        check.sentence("How many bodies a lane has");
        int[] words = {0, 1, 0b1001, 0b1001001, 0b1001001001, 1023, 0};
        int[] due = {0, 1, 2, 3, 4, 4, 0};
        PairedGates gates = new PairedGates();
        for (int i = 0; i < words.length; i++) {
            Walk.show(gates, 1, words[i]);
            check.due("bodies(1) at word " + i, gates.bodies(1), due[i]);
            check.due("bodies(0) at word " + i, gates.bodies(0), 0);
        }
    }

    private static void bodyOfTheRow() {
        check.sentence("IndexOutOfBounds, also if there is no such body");
        for (int bodies = 0; bodies <= 4; bodies++) {
            PairedGates gates = shown(0b1001001001 & Walk.row(0, 3 * bodies - 1));
            for (int i : new int[] {Integer.MIN_VALUE, -1, 0, 1, 2, 3, 4, 5, Integer.MAX_VALUE}) {
                for (int what = 0; what <= 4; what++) {
                    int asked = what;
                    String due = i >= 0 && i < bodies ? "nothing" : Check.BOUNDS;
                    check.dueThrow("body(0, " + i + ", " + what + ") of " + bodies, due, () -> gates.body(0, i, asked));
                }
                check.dueThrow("body(1, " + i + ", 0) of none", Check.BOUNDS, () -> gates.body(1, i, 0));
            }
        }
        PairedGates left = shown(0b1001, 1);
        check.due("body(0, 0, 0)", left.body(0, 0, 0), 0);
        check.dueThrow("body(0, 1, 0), it left", Check.BOUNDS, () -> left.body(0, 1, 0));
    }

    private static void whatOfABody() {
        check.sentence("what = 0 the first, 1 the last beam of its interval, 2 its side, 3 the account of its token"
                + " (NONE without one), 4 its LENGTH");
        PairedGates gates = new PairedGates();
        gates.token(1, 1, 44);
        Walk.show(gates, 1, 512);
        check.due("without a token", Walk.bodyText(gates, 1, 0), "9..9 side 1 token -1 length 1");
        Walk.show(gates, 1, Walk.row(4, 9));
        Walk.show(gates, 1, Walk.row(4, 6));
        int[] due = {4, 6, 1, 44, 6};
        for (int what = 0; what < 5; what++) {
            check.due("body(1, 0, " + what + ")", gates.body(1, 0, what), due[what]);
        }
        check.sentence("what is not 0 .. 4");
        for (int what : new int[] {Integer.MIN_VALUE, -2, -1, 5, 6, Integer.MAX_VALUE}) {
            check.dueThrow("body(1, 0, " + what + ")", Check.ARGUMENT, () -> gates.body(1, 0, what));
        }
        check.dueThrow("body(1, 0, 0)", "nothing", () -> gates.body(1, 0, 0));
        check.dueThrow("body(1, 0, 4)", "nothing", () -> gates.body(1, 0, 4));
    }

    private static void waitingTokens() {
        check.sentence("How many tokens wait");
        PairedGates gates = new PairedGates();
        for (int i = 0; i <= 6; i++) {
            check.due("waiting(1, 1) of " + i, gates.waiting(1, 1), i);
            gates.token(1, 1, i);
        }
        check.due("waiting(1, 1), the seventh found it full", gates.waiting(1, 1), 6);
        check.due("waiting(1, 0)", gates.waiting(1, 0), 0);
        check.due("waiting(0, 1)", gates.waiting(0, 1), 0);
        for (int i = 5; i >= 0; i--) {
            gates.cancel(1, 1);
            check.due("waiting(1, 1) behind a cancel", gates.waiting(1, 1), i);
        }
    }

    private static void waitsFromTheOldestOn() {
        check.sentence("The account of the i-th token that waits, from the oldest on (0); NONE if there is none such");
        for (int tokens = 0; tokens <= 6; tokens++) {
            PairedGates gates = new PairedGates();
            for (int i = 0; i < tokens; i++) {
                gates.token(0, 1, 50 - i);
            }
            for (int i : new int[] {Integer.MIN_VALUE, -1, 0, 1, 2, 3, 4, 5, 6, 7, 512, Integer.MAX_VALUE}) {
                int due = i >= 0 && i < tokens ? 50 - i : PairedGates.NONE;
                check.due("waits(0, 1, " + i + ") of " + tokens, gates.waits(0, 1, i), due);
                check.due("waits(0, 0, " + i + ")", gates.waits(0, 0, i), PairedGates.NONE);
                check.due("waits(1, 1, " + i + ")", gates.waits(1, 1, i), PairedGates.NONE);
            }
            gates.cancel(0, 1);
            check.due("waits(0, 1, 0) behind a cancel", gates.waits(0, 1, 0), tokens > 1 ? 49 : PairedGates.NONE);
            check.due("the last place behind a cancel", gates.waits(0, 1, Math.max(0, tokens - 1)), PairedGates.NONE);
        }
    }

    private static void countOfAKind() {
        check.sentence("A count; 0 for no such kind");
        PairedGates gates = new PairedGates();
        gates.token(0, 0, 1);
        Walk.walkTo(gates, 0, 0, 0, 9);
        Walk.show(gates, 0, 0);
        Walk.walkTo(gates, 0, 0, 9, 9);
        Walk.show(gates, 0, 0);
        Walk.showAll(gates, 0, 0b1001001001, 0);
        int[] due = {1, 1, 2, 2, 2};
        for (int kind = 0; kind < 5; kind++) {
            check.due("count(0, " + kind + ")", gates.count(0, kind), due[kind]);
            check.due("count(1, " + kind + ")", gates.count(1, kind), 0);
        }
        for (int kind : new int[] {Integer.MIN_VALUE, -5, -1, 5, 6, Integer.MAX_VALUE}) {
            check.due("count(0, " + kind + ")", gates.count(0, kind), 0);
        }
    }

    private static void orderOfTheLatestTick() {
        check.sentence("The order of the latest tick, 0 before the first");
        PairedGates gates = new PairedGates();
        gates.alarm(true);
        check.due("order(0) before the first", gates.order(0), 0);
        check.due("angle(0) before the first", gates.angle(0), 0);
        gates.ticks(1);
        check.due("order(0) of tick 1", gates.order(0), 2);
        gates.alarm(false);
        check.due("order(0) of tick 1 still", gates.order(0), 2);
        gates.ticks(1);
        check.due("order(0) of tick 2", gates.order(0), -2);
        gates.ticks(1);
        check.due("order(0) of tick 3", gates.order(0), 0);
    }

    private static void seenAtTheLatestTick() {
        check.sentence("The beams of a lane that were seen at the latest tick, as a word; 0 before the first");
        PairedGates gates = new PairedGates();
        gates.beams(0, 1023);
        check.due("seen(0) before the first", gates.seen(0), 0);
        gates.ticks(1);
        check.due("seen(0) at tick 1", gates.seen(0), 0);
        gates.ticks(1);
        check.due("seen(0) at tick 2", gates.seen(0), 1023);
        gates.beams(0, 0);
        check.due("seen(0) at tick 2 still", gates.seen(0), 1023);
        gates.ticks(1);
        check.due("seen(0) at tick 3", gates.seen(0), 1023);
        gates.ticks(1);
        check.due("seen(0) at tick 4", gates.seen(0), 0);
        check.due("a gap inside a blob is not seen", shown(0b101).seen(0), 0b101);
    }

    private static void acceptedInAll() {
        check.sentence("How many tokens were accepted in all");
        PairedGates gates = withTokens();
        check.due("accepted() of seven", gates.accepted(), 7);
        gates.token(0, 0, 12);
        check.due("accepted() behind a refused one", gates.accepted(), 7);
        gates.cancel(0, 0);
        gates.mode(0, 3);
        gates.ticks(300);
        check.due("accepted() when all are refunded", gates.accepted(), 7);
        check.due("refunds()", gates.refunds(), 7);
        gates.token(1, 0, 12);
        check.due("accepted() of the same account again", gates.accepted(), 8);
    }

    private static void refundsThereAre() {
        check.sentence("How many REFUNDS there are");
        PairedGates gates = new PairedGates();
        check.due("refunds() at first", gates.refunds(), 0);
        gates.token(0, 0, 1);
        gates.token(0, 1, 2);
        gates.token(1, 0, 3);
        gates.token(1, 1, 4);
        check.due("refunds() of tokens that wait", gates.refunds(), 0);
        gates.cancel(0, 1);
        check.due("refunds() behind a cancel", gates.refunds(), 1);
        gates.cancel(0, 1);
        check.due("refunds() behind a cancel of none", gates.refunds(), 1);
        gates.mode(1, 1);
        check.due("refunds() behind a mode", gates.refunds(), 2);
        Walk.showAll(gates, 0, Walk.row(0, 4), 0);
        check.due("refunds() behind one that turned", gates.refunds(), 3);
        gates.ticks(200);
        check.due("refunds() behind 200 ticks", gates.refunds(), 4);
        check.sentence("REFUNDS are a list, in the order in which they came");
        check.due("the refunds", Walk.refundText(gates), "2 4 1 3");
    }

    private static void refundOfNoSuchIndex() {
        check.sentence("The account of refund i; NONE if there is none such");
        PairedGates gates = new PairedGates();
        check.due("refund(0) at first", gates.refund(0), PairedGates.NONE);
        for (int i = 0; i < 3; i++) {
            gates.token(0, 0, i);
            gates.cancel(0, 0);
            check.due("refund(" + i + ")", gates.refund(i), i);
            check.due("refund(" + (i + 1) + ")", gates.refund(i + 1), PairedGates.NONE);
        }
        for (int i : new int[] {Integer.MIN_VALUE, -1, 3, 511, 512, 513, Integer.MAX_VALUE}) {
            check.due("refund(" + i + ") of three", gates.refund(i), PairedGates.NONE);
        }
    }
}
