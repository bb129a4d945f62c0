import java.util.TreeSet;

/** The sentences of "What it is" and of "Terms" before the six steps: each one with its boundary, from both sides. */
public final class TermsTest {
    private static final Check check = new Check();

    public static void main(String[] args) {
        timeOf512Calls();
        acceptedIn512Calls();
        refundsIn512Calls();
        repeatedAtThe512thCall();
        beamsOfAWord();
        nothingIsToldAtFirst();
        theWordToldLastHolds();
        seenInTwoOfThree();
        nothingIsTakenBeforeTheFirstTick();
        blobsOfEveryWord();
        blobsArePartedByTwo();
        blobsAreNumberedFromBeamZero();
        atMostFourBodies();
        fourInEachLane();
        theMostBeamsOfAnInterval();
        anIntervalMeetsAnother();
        check.end();
    }

    private static final String CALLS = "An object is used for at most 512 calls after it has been made";

    private static void timeOf512Calls() {
        check.sentence(CALLS);
        PairedGates gates = new PairedGates();
        for (int call = 1; call <= 511; call++) {
            gates.ticks(300);
        }
        check.due("time() as call 512", gates.time(), 511 * 300);
    }

    /** 24 tokens wait, 200 ticks refund them: no way takes fewer calls a token. The answer is the next account. */
    private static int offerAndExpire(PairedGates gates, int rounds) {
        int account = 0;
        for (int round = 0; round < rounds; round++) {
            for (int i = 0; i < 24; i++) {
                gates.token(i / 12, i / 6 % 2, account);
                account++;
            }
            gates.ticks(200);
        }
        return account;
    }

    private static void acceptedIn512Calls() {
        check.sentence(CALLS);
        PairedGates gates = new PairedGates();
        int account = offerAndExpire(gates, 20);
        for (int call = 501; call <= 511; call++) {
            check.due("token as call " + call, gates.token(0, call % 2, account++), PairedGates.ACCEPTED);
        }
        check.due("accepted() as call 512", gates.accepted(), 491);
    }

    private static void refundsIn512Calls() {
        check.sentence(CALLS);
        for (int i = 0; i <= 491; i++) {
            PairedGates gates = new PairedGates();
            int account = offerAndExpire(gates, 20);
            for (int call = 501; call <= 510; call++) {
                gates.token(0, call > 505 ? 1 : 0, account++);
            }
            gates.ticks(300);
            if (i == 491) {
                check.due("refunds() as call 512", gates.refunds(), 490);
            } else {
                check.due("refund(" + i + ") as call 512", gates.refund(i), i < 490 ? i : PairedGates.NONE);
            }
        }
    }

    private static void repeatedAtThe512thCall() {
        check.sentence(CALLS);
        for (int account = 0; account <= 256; account++) {
            PairedGates gates = new PairedGates();
            gates.token(1, 1, 0);
            for (int offered = 1; offered <= 255; offered++) {
                gates.token(0, 0, offered);
                gates.cancel(0, 0);
            }
            int due = account <= 255 ? PairedGates.REPEATED : PairedGates.ACCEPTED;
            check.due("token(1, 0, " + account + ") as call 512", gates.token(1, 0, account), due);
        }
    }

    private static void beamsOfAWord() {
        check.sentence("a lane has ten BEAMS 0 .. 9 in a row, told as a word: bit i says that beam i is covered");
        for (int lane = 0; lane < 2; lane++) {
            for (int bit = 0; bit < 32; bit++) {
                PairedGates gates = new PairedGates();
                Walk.show(gates, lane, 1 << bit);
                check.due("seen of bit " + bit, gates.seen(lane), bit <= 9 ? 1 << bit : 0);
                check.due("bodies of bit " + bit, Walk.intervals(gates, lane), bit <= 9 ? bit + ".." + bit : "");
                check.due("seen in the other lane", gates.seen(1 - lane), 0);
            }
        }
    }

    private static final String TOLD = "The word that was told last holds until another one is told (0 at first)";

    private static void nothingIsToldAtFirst() {
        check.sentence(TOLD);
        PairedGates gates = new PairedGates();
        for (int tick = 1; tick <= 4; tick++) {
            gates.ticks(1);
            check.due("seen(0) at tick " + tick, gates.seen(0), 0);
            check.due("seen(1) at tick " + tick, gates.seen(1), 0);
        }
        gates.beams(0, 1023);
        gates.ticks(2);
        check.due("seen(0), a word was told", gates.seen(0), 1023);
        check.due("seen(1), none was told", gates.seen(1), 0);
    }

    private static void theWordToldLastHolds() {
        check.sentence(TOLD);
        PairedGates gates = new PairedGates();
        gates.beams(0, 0b0110000000);
        gates.beams(0, 0b0000000110);
        gates.ticks(300);
        check.due("seen after 300 ticks", gates.seen(0), 0b0000000110);
        gates.ticks(300);
        check.due("seen after 600 ticks", gates.seen(0), 0b0000000110);
        gates.beams(0, 0b0110000000);
        gates.beams(0, 0b0000000110);
        gates.ticks(2);
        check.due("seen, another word was told but not last", gates.seen(0), 0b0000000110);
        gates.beams(0, 0b0110000000);
        gates.ticks(2);
        check.due("seen, another word was told last", gates.seen(0), 0b0110000000);
        gates.beams(0, 0);
        gates.ticks(2);
        check.due("seen, word 0 was told last", gates.seen(0), 0);
    }

    private static void seenInTwoOfThree() {
        check.sentence("A beam is SEEN when it is covered in at least two of the words taken at this tick and the two"
                + " ticks before it");
        // Bit t - 1 of a story says that the beam is covered at tick t; the fourth tick has one before its window.
        for (int story = 0; story < 64; story++) {
            for (int beam = 0; beam < 10; beam++) {
                PairedGates gates = new PairedGates();
                for (int tick = 1; tick <= 6; tick++) {
                    gates.beams(1, (story >> tick - 1 & 1) << beam);
                    gates.ticks(1);
                    int covered = Integer.bitCount(story & Walk.row(Math.max(0, tick - 3), tick - 1));
                    check.due("seen at tick " + tick + " of story " + Integer.toBinaryString(story), gates.seen(1),
                            covered >= 2 ? 1 << beam : 0);
                }
            }
        }
    }

    private static void nothingIsTakenBeforeTheFirstTick() {
        check.sentence("words taken before the first tick are 0");
        PairedGates gates = new PairedGates();
        gates.beams(0, 1023);
        gates.ticks(1);
        check.due("seen at tick 1, covered once", gates.seen(0), 0);
        check.due("bodies at tick 1", gates.bodies(0), 0);
        gates.beams(0, 0);
        gates.ticks(1);
        check.due("seen at tick 2, covered at tick 1 alone", gates.seen(0), 0);
        PairedGates twice = new PairedGates();
        twice.beams(0, 1023);
        twice.ticks(2);
        check.due("seen at tick 2, covered twice", twice.seen(0), 1023);
    }

    private static void blobsOfEveryWord() {
        check.sentence("A BLOB is a longest row of beams from a seen one to a seen one, with never two beams side by"
                + " side in it that are not seen");
        for (int word = 0; word < 1024; word++) {
            TreeSet<Integer> seen = new TreeSet<>();
            for (int beam = 0; beam < 10; beam++) {
                if ((word >> beam & 1) != 0) {
                    seen.add(beam);
                }
            }
            StringBuilder due = new StringBuilder();
            for (TreeSet<Integer> blob : Model.blobs(seen)) {
                due.append(due.length() == 0 ? "" : " ").append(blob.first()).append("..").append(blob.last());
            }
            PairedGates gates = new PairedGates();
            Walk.show(gates, word % 2, word);
            check.due("bodies of word " + word, Walk.intervals(gates, word % 2), due.toString());
        }
    }

    private static void dueIntervals(String due, int word) {
        PairedGates gates = new PairedGates();
        Walk.show(gates, 0, word);
        check.due("bodies of word " + Integer.toBinaryString(word), Walk.intervals(gates, 0), due);
    }

    private static void blobsArePartedByTwo() {
        check.sentence("with never two beams side by side in it that are not seen");
        for (int first = 0; first + 2 < 10; first++) {
            dueIntervals(first + ".." + (first + 2), 0b101 << first);
        }
        for (int first = 0; first + 3 < 10; first++) {
            dueIntervals(first + ".." + first + " " + (first + 3) + ".." + (first + 3), 0b1001 << first);
        }
        dueIntervals("0..9", 0b1011010101);
        dueIntervals("0..4 7..9", 0b1010010101);
    }

    private static void blobsAreNumberedFromBeamZero() {
        check.sentence("blobs are numbered from beam 0 on");
        dueIntervals("0..0 3..3 6..6 9..9", 0b1001001001);
        dueIntervals("0..1 8..9", 0b1100000011);
        dueIntervals("", 0);
        dueIntervals("0..9", 1023);
    }

    private static final String FOUR = "BODIES, at most 4 in a lane, stand in a row";

    private static void atMostFourBodies() {
        check.sentence(FOUR);
        PairedGates gates = new PairedGates();
        Walk.showAll(gates, 0, 0b1000010001, 1023);
        check.due("three", Walk.intervals(gates, 0), "0..2 3..5 6..9");
        Walk.show(gates, 0, 0b1001110011);
        check.due("a fourth", Walk.intervals(gates, 0), "0..1 4..4 5..6 9..9");
        Walk.show(gates, 0, 0b1001111011);
        check.due("all four still, at two blobs", Walk.intervals(gates, 0), "0..1 2..3 4..6 9..9");
        Walk.show(gates, 0, 0b1001001001);
        check.due("bodies(0), four blobs", gates.bodies(0), 4);
        Walk.showAll(gates, 0, 1023, 0b1001001001);
        check.due("two go to beam 6, no fifth to beam 9", Walk.intervals(gates, 0), "0..0 3..3 6..6 6..6");
    }

    private static void fourInEachLane() {
        check.sentence(FOUR);
        PairedGates gates = new PairedGates();
        gates.beams(0, 0b1001001001);
        gates.beams(1, 0b1001001001);
        gates.ticks(2);
        check.due("bodies(0)", gates.bodies(0), 4);
        check.due("bodies(1)", gates.bodies(1), 4);
    }

    private static void theMostBeamsOfAnInterval() {
        check.sentence("a LENGTH, the most beams that its interval has had");
        int[] words = {0b1, 0b111, 0b11, 0b1111, 0b1000, 0b11000, 0b101011000};
        int[] due = {1, 3, 3, 4, 4, 4, 6};
        PairedGates gates = new PairedGates();
        for (int i = 0; i < words.length; i++) {
            Walk.show(gates, 0, words[i]);
            check.due("length at word " + i, gates.body(0, 0, 4), due[i]);
        }
        Walk.show(gates, 0, 0);
        Walk.show(gates, 0, 1);
        check.due("length of another one", gates.body(0, 0, 4), 1);
        PairedGates two = new PairedGates();
        Walk.showAll(two, 0, 0b1000000001, 1023);
        check.due("the first one's share of ten", two.body(0, 0, 4), 5);
        check.due("the second one's share of ten", two.body(0, 1, 4), 5);
    }

    private static void anIntervalMeetsAnother() {
        check.sentence("An interval MEETS another one if it, made one beam longer at both ends, has a beam in common"
                + " with it");
        for (int first = 0; first < 10; first++) {
            for (int last = first; last < 10; last++) {
                meetsBlobs(first, last);
            }
        }
    }

    private static void meetsBlobs(int first, int last) {
        int longer = Walk.row(Math.max(0, first - 1), last + 1);
        for (int from = 0; from < 10; from++) {
            for (int to = from; to < 10; to++) {
                PairedGates gates = new PairedGates();
                Walk.show(gates, 0, Walk.row(first, last));
                boolean meets = (longer & Walk.row(from, to)) != 0;
                String name = first + ".." + last + " and " + from + ".." + to;
                check.due(name + ": leaves", Walk.show(gates, 0, Walk.row(from, to)), meets ? 0 : 1);
                check.due(name + ": bodies(0)", gates.bodies(0), 1);
                int length = to - from + 1;
                check.due(name + ": length", gates.body(0, 0, 4), meets ? Math.max(last - first + 1, length) : length);
            }
        }
    }
}
