/**
 * Two gates side by side, each with a row of light beams and a pair of paddles.
 *
 * All rows are made once, in the constructors: a tick makes no object, however many ticks there are.
 */
public final class PairedGates {
    public static final int ACCEPTED = 0;
    public static final int CLOSED = 1;
    public static final int FULL = 2;
    public static final int REPEATED = 3;
    public static final int NONE = -1;

    private static final int MOST_CALLS = 512;
    private static final int MOST_TICKS = 300;

    private static final int BEAMS = 10;
    private static final int ALL_BEAMS = 0x3FF;
    private static final int PADDLE_BEAMS = 0x78;
    // Blobs lie two unseen beams apart at least: beams 0, 3, 6 and 9 make the most of them.
    private static final int MOST_BLOBS = 4;
    private static final int MOST_BODIES = 4;

    private static final int MOST_WAITING = 6;
    private static final int LONGEST_WAIT = 200;
    private static final int REPEAT_TICKS = 300;

    private static final int MODE_BOTH = 0;
    private static final int MODE_NONE = 3;

    private static final int KINDS = 5;
    private static final int THROUGH_PAID = 0;
    private static final int THROUGH_UNPAID = 1;
    private static final int TURNED = 2;
    private static final int LOST = 3;
    private static final int THROUGH_LONG = 4;
    private static final int LONG = 6;

    private static final int OPEN_ANGLE = 90;
    private static final int STEP = 2;

    private final Lane[] lanes;
    // Every acceptance stays here, as an account may not come again too soon, whatever became of its token.
    private final TokenList acceptances;
    private final Refunds refundList;
    private boolean alarmOn;
    private int now;

    public PairedGates() {
        lanes = new Lane[] {new Lane(), new Lane()};
        acceptances = new TokenList(MOST_CALLS);
        refundList = new Refunds();
        alarmOn = false;
        now = 0;
    }

    public void beams(int lane, int word) throws IndexOutOfBoundsException {
        laneAt(lane).eye.tell(word);
    }

    public int ticks(int n) throws IllegalArgumentException {
        if (n < 1 || n > MOST_TICKS) {
            throw new IllegalArgumentException("ticks are 1 .. 300");
        }
        int left = 0;
        for (int i = 0; i < n; i++) {
            now++;
            for (int lane = 0; lane < lanes.length; lane++) {
                left += lanes[lane].tick(now, alarmOn, refundList);
            }
        }
        return left;
    }

    public int token(int lane, int side, int account)
            throws IndexOutOfBoundsException, IllegalArgumentException {
        Lane place = laneAt(lane);
        TokenList queue = queueAt(place, side);
        if (account < 0) {
            throw new IllegalArgumentException("an account is not below 0");
        }
        if (!place.takesSide(side)) {
            return CLOSED;
        }
        if (acceptances.hasRecent(account, now)) {
            return REPEATED;
        }
        // The list of acceptances has room for every call that is promised: only later calls find it full.
        if (queue.isFull() || acceptances.isFull()) {
            return FULL;
        }
        acceptances.add(account, now);
        queue.add(account, now);
        return ACCEPTED;
    }

    public int cancel(int lane, int side) throws IndexOutOfBoundsException {
        TokenList queue = queueAt(laneAt(lane), side);
        if (queue.size == 0) {
            return NONE;
        }
        int account = queue.removeOldest();
        refundList.add(account);
        return account;
    }

    public int mode(int lane, int mode)
            throws IndexOutOfBoundsException, IllegalArgumentException, IllegalStateException {
        Lane place = laneAt(lane);
        if (mode < MODE_BOTH || mode > MODE_NONE) {
            throw new IllegalArgumentException("modes are 0 .. 3");
        }
        if (place.size > 0) {
            throw new IllegalStateException("the lane has bodies");
        }
        return place.changeMode(mode, refundList);
    }

    public void alarm(boolean on) {
        alarmOn = on;
    }

    public int time() {
        return now;
    }

    public int bodies(int lane) throws IndexOutOfBoundsException {
        return laneAt(lane).size;
    }

    public int body(int lane, int i, int what)
            throws IndexOutOfBoundsException, IllegalArgumentException {
        Body asked = bodyAt(laneAt(lane), i);
        switch (what) {
            case 0:
                return asked.first;
            case 1:
                return asked.last;
            case 2:
                return asked.side;
            case 3:
                return asked.account;
            case 4:
                return asked.length;
            default:
                throw new IllegalArgumentException("what is 0 .. 4");
        }
    }

    public int waiting(int lane, int side) throws IndexOutOfBoundsException {
        return queueAt(laneAt(lane), side).size;
    }

    public int waits(int lane, int side, int i) throws IndexOutOfBoundsException {
        return queueAt(laneAt(lane), side).accountAt(i);
    }

    public int count(int lane, int kind) throws IndexOutOfBoundsException {
        int[] counts = laneAt(lane).counts;
        return kind >= 0 && kind < counts.length ? counts[kind] : 0;
    }

    public int angle(int lane) throws IndexOutOfBoundsException {
        return laneAt(lane).paddles.angle;
    }

    public int order(int lane) throws IndexOutOfBoundsException {
        return laneAt(lane).paddles.order;
    }

    public int seen(int lane) throws IndexOutOfBoundsException {
        return laneAt(lane).eye.seen;
    }

    public int accepted() {
        return acceptances.size;
    }

    public int refunds() {
        return refundList.size;
    }

    public int refund(int i) {
        return refundList.accountAt(i);
    }

    private Lane laneAt(int lane) {
        if (lane < 0 || lane >= lanes.length) {
            throw new IndexOutOfBoundsException("there is no such lane");
        }
        return lanes[lane];
    }

    private static TokenList queueAt(Lane place, int side) {
        if (side < 0 || side >= place.queues.length) {
            throw new IndexOutOfBoundsException("there is no such side");
        }
        return place.queues[side];
    }

    private static Body bodyAt(Lane place, int i) {
        if (i < 0 || i >= place.size) {
            throw new IndexOutOfBoundsException("there is no such body");
        }
        return place.row[i];
    }

    /** A lane: what stands in it, what waits for it, and the six steps of its tick. */
    private static final class Lane {
        final Eye eye = new Eye();
        final Blobs blobs = new Blobs();
        final Paddles paddles = new Paddles();
        final TokenList[] queues = {new TokenList(MOST_WAITING), new TokenList(MOST_WAITING)};
        final int[] counts = new int[KINDS];
        // The blob that each body of the row goes to at this tick, NONE for one that leaves.
        final int[] goals = new int[MOST_BODIES];
        int openMode = MODE_BOTH;
        int size = 0;
        Body[] row = newRow();
        // A tick writes its row here, so that the old intervals can still be asked; then the two change places.
        Body[] nextRow = newRow();

        private static Body[] newRow() {
            Body[] made = new Body[MOST_BODIES];
            for (int i = 0; i < made.length; i++) {
                made[i] = new Body();
            }
            return made;
        }

        boolean takesSide(int side) {
            return openMode == MODE_BOTH || openMode == side + 1;
        }

        int changeMode(int chosen, Refunds refundList) {
            openMode = chosen;
            int refunded = 0;
            for (int side = 0; side < queues.length; side++) {
                if (!takesSide(side)) {
                    refunded += queues[side].refundAll(refundList);
                }
            }
            return refunded;
        }

        int tick(int now, boolean alarmOn, Refunds refundList) {
            for (int side = 0; side < queues.length; side++) {
                queues[side].refundExpired(now, refundList);
            }
            eye.take();
            blobs.find(eye.seen);
            int left = sendBodies(refundList);
            renewRow(size - left);
            handOutTokens();
            paddles.move(alarmOn || someBodyHasToken(), (eye.seen & PADDLE_BEAMS) != 0);
            return left;
        }

        private int sendBodies(Refunds refundList) {
            int left = 0;
            for (int i = 0; i < size; i++) {
                goals[i] = blobs.firstMetBy(row[i]);
                if (goals[i] == NONE) {
                    countLeaver(row[i], refundList);
                    left++;
                }
            }
            return left;
        }

        private void countLeaver(Body leaver, Refunds refundList) {
            boolean hasToken = leaver.account != NONE;
            if (leaver.isThrough()) {
                counts[hasToken ? THROUGH_PAID : THROUGH_UNPAID]++;
                if (leaver.length >= LONG) {
                    counts[THROUGH_LONG]++;
                }
                return;
            }
            counts[leaver.isTurned() ? TURNED : LOST]++;
            if (hasToken) {
                refundList.add(leaver.account);
            }
        }

        private void renewRow(int stayed) {
            int free = MOST_BODIES - stayed;
            int filled = 0;
            for (int blob = 0; blob < blobs.size; blob++) {
                int sharers = sharersOf(blob);
                if (sharers > 0) {
                    filled = shareBlob(blob, sharers, filled);
                } else if (free > 0 && filled < nextRow.length) {
                    nextRow[filled].enter(blobs.first[blob], blobs.last[blob], sideFor(blob));
                    filled++;
                    free--;
                }
            }
            Body[] old = row;
            row = nextRow;
            nextRow = old;
            size = filled;
        }

        private int sharersOf(int blob) {
            int sharers = 0;
            for (int i = 0; i < size; i++) {
                if (goals[i] == blob) {
                    sharers++;
                }
            }
            return sharers;
        }

        private int shareBlob(int blob, int sharers, int from) {
            int start = blobs.first[blob];
            int beams = blobs.last[blob] - start + 1;
            int share = 0;
            int filled = from;
            for (int i = 0; i < size && filled < nextRow.length && sharers > 0; i++) {
                if (goals[i] == blob) {
                    int first = start + share * beams / sharers;
                    int last = start + (share + 1) * beams / sharers - 1;
                    nextRow[filled].follow(row[i], first, Math.max(first, last));
                    share++;
                    filled++;
                }
            }
            return filled;
        }

        private int sideFor(int blob) {
            // The row still holds those that leave, but one that meets a blob does not leave.
            for (int i = 0; i < size; i++) {
                if (blobs.isMetBy(row[i], blob)) {
                    return row[i].side;
                }
            }
            return blobs.first[blob] + blobs.last[blob] < BEAMS - 1 ? 0 : 1;
        }

        private void handOutTokens() {
            for (int i = 0; i < size; i++) {
                Body walker = row[i];
                if (walker.account == NONE && walker.hasReachedPaddles()) {
                    walker.account = queues[walker.side == 0 ? 0 : 1].removeOldest();
                }
            }
        }

        private boolean someBodyHasToken() {
            for (int i = 0; i < size; i++) {
                if (row[i].account != NONE) {
                    return true;
                }
            }
            return false;
        }
    }

    /** The word that was told and the two that were taken last. */
    private static final class Eye {
        int told = 0;
        int latest = 0;
        int earlier = 0;
        int seen = 0;

        void tell(int word) {
            told = word & ALL_BEAMS;
        }

        void take() {
            seen = (told & latest) | (told & earlier) | (latest & earlier);
            earlier = latest;
            latest = told;
        }
    }

    /** The blobs of one tick, from beam 0 on. */
    private static final class Blobs {
        final int[] first = new int[MOST_BLOBS];
        final int[] last = new int[MOST_BLOBS];
        int size = 0;

        void find(int seen) {
            size = 0;
            for (int beam = 0; beam < BEAMS; beam++) {
                if ((seen >> beam & 1) != 0) {
                    addBeam(beam);
                }
            }
        }

        private void addBeam(int beam) {
            // One unseen beam does not part a blob, two do.
            if (size > 0 && beam - last[size - 1] <= 2) {
                last[size - 1] = beam;
            } else if (size < first.length) {
                first[size] = beam;
                last[size] = beam;
                size++;
            }
        }

        int firstMetBy(Body walker) {
            for (int blob = 0; blob < size; blob++) {
                if (isMetBy(walker, blob)) {
                    return blob;
                }
            }
            return NONE;
        }

        boolean isMetBy(Body walker, int blob) {
            return walker.first - 1 <= last[blob] && walker.last + 1 >= first[blob];
        }
    }

    /** Somebody in a lane: an interval of beams with a side, perhaps a token, and a length. */
    private static final class Body {
        int first = 0;
        int last = 0;
        int side = 0;
        int account = NONE;
        int length = 0;

        void enter(int newFirst, int newLast, int newSide) {
            first = newFirst;
            last = newLast;
            side = newSide;
            account = NONE;
            length = newLast - newFirst + 1;
        }

        void follow(Body old, int newFirst, int newLast) {
            first = newFirst;
            last = newLast;
            side = old.side;
            account = old.account;
            length = Math.max(old.length, newLast - newFirst + 1);
        }

        boolean isThrough() {
            return side == 0 ? endsHigh() : startsLow();
        }

        boolean isTurned() {
            return side == 0 ? startsLow() : endsHigh();
        }

        boolean hasReachedPaddles() {
            return side == 0 ? last >= 4 : first <= 5;
        }

        private boolean startsLow() {
            return first <= 2;
        }

        private boolean endsHigh() {
            return last >= 7;
        }
    }

    private static final class Paddles {
        int angle = 0;
        int order = 0;

        void move(boolean wantedOpen, boolean blocked) {
            order = 0;
            if (wantedOpen) {
                if (angle < OPEN_ANGLE) {
                    order = STEP;
                }
            } else if (angle > 0 && !blocked) {
                order = -STEP;
            }
            angle += order;
        }
    }

    /** Tokens with the times at which they were accepted, the oldest first. */
    private static final class TokenList {
        final int[] accounts;
        final int[] times;
        int size = 0;

        TokenList(int most) {
            int room = Math.max(most, 0);
            accounts = new int[room];
            times = new int[room];
        }

        boolean isFull() {
            return size >= accounts.length;
        }

        void add(int account, int now) {
            if (size < accounts.length) {
                accounts[size] = account;
                times[size] = now;
                size++;
            }
        }

        int accountAt(int i) {
            return i >= 0 && i < size ? accounts[i] : NONE;
        }

        boolean hasRecent(int account, int now) {
            // Times never fall along the list, so what stands before an old one is old too.
            for (int i = size - 1; i >= 0 && now - times[i] < REPEAT_TICKS; i--) {
                if (accounts[i] == account) {
                    return true;
                }
            }
            return false;
        }

        int removeOldest() {
            if (size == 0) {
                return NONE;
            }
            int oldest = accounts[0];
            size--;
            for (int i = 0; i < size; i++) {
                accounts[i] = accounts[i + 1];
                times[i] = times[i + 1];
            }
            return oldest;
        }

        void refundExpired(int now, Refunds refundList) {
            int most = size;
            for (int i = 0; i < most && now - times[0] >= LONGEST_WAIT; i++) {
                refundList.add(removeOldest());
            }
        }

        int refundAll(Refunds refundList) {
            int refunded = size;
            for (int i = 0; i < refunded; i++) {
                refundList.add(removeOldest());
            }
            return refunded;
        }
    }

    /** The accounts that were refunded, in the order in which they came. */
    private static final class Refunds {
        final int[] accounts = new int[MOST_CALLS];
        int size = 0;

        void add(int account) {
            if (size < accounts.length) {
                accounts[size] = account;
                size++;
            }
        }

        int accountAt(int i) {
            return i >= 0 && i < size ? accounts[i] : NONE;
        }
    }
}
