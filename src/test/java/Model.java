import java.util.ArrayList;
import java.util.List;
import java.util.TreeSet;

/** The document read word by word with sets and lists, slow and plain: what PairedGates is compared with. */
final class Model {
    static final class Someone {
        TreeSet<Integer> interval = new TreeSet<>();
        TreeSet<Integer> old;
        int side;
        Token token;
        int length;
        TreeSet<Integer> goal;

        void take(TreeSet<Integer> beams) {
            interval = beams;
            length = Math.max(length, beams.size());
        }
    }

    record Token(int account, int tick) {
    }

    static final class Gate {
        final List<Integer> taken = new ArrayList<>(List.of(0, 0));
        final List<List<Token>> waiting = List.of(new ArrayList<>(), new ArrayList<>());
        final int[] counts = new int[5];
        List<Someone> row = new ArrayList<>();
        int word;
        int mode;
        int angle;
        int order;
        TreeSet<Integer> seen = new TreeSet<>();
    }

    final Gate[] gates = {new Gate(), new Gate()};
    final List<Token> acceptedTokens = new ArrayList<>();
    final List<Integer> refundList = new ArrayList<>();
    boolean alarmOn;
    int time;
    /** How often something came about that a good set of runs must show. */
    final int[] shown = new int[12];

    private static TreeSet<Integer> range(int first, int last) {
        TreeSet<Integer> beams = new TreeSet<>();
        for (int beam = first; beam <= last; beam++) {
            beams.add(beam);
        }
        return beams;
    }

    private static boolean meets(TreeSet<Integer> interval, TreeSet<Integer> other) {
        TreeSet<Integer> longer = range(interval.first() - 1, interval.last() + 1);
        longer.retainAll(other);
        return !longer.isEmpty();
    }

    /** Every row of beams that is as a blob, less those inside a longer one. */
    static List<TreeSet<Integer>> blobs(TreeSet<Integer> seen) {
        List<TreeSet<Integer>> all = new ArrayList<>();
        for (int first : seen) {
            for (int last : seen.tailSet(first)) {
                if (range(first, last - 1).stream().allMatch(b -> seen.contains(b) || seen.contains(b + 1))) {
                    all.add(range(first, last));
                }
            }
        }
        List<TreeSet<Integer>> longest = new ArrayList<>();
        for (TreeSet<Integer> one : all) {
            if (all.stream().noneMatch(other -> other.size() > one.size() && other.containsAll(one))) {
                longest.add(one);
            }
        }
        return longest;
    }

    int ticks(int n) {
        int left = 0;
        for (int i = 0; i < n; i++) {
            time++;
            for (Gate gate : gates) {
                left += tick(gate);
            }
        }
        return left;
    }

    private int tick(Gate gate) {
        for (List<Token> side : gate.waiting) {
            while (!side.isEmpty() && time - side.get(0).tick() >= 200) {
                refundList.add(side.remove(0).account());
                shown[0]++;
            }
        }
        take(gate);
        List<TreeSet<Integer>> blobs = blobs(gate.seen);
        int before = gate.row.size();
        send(gate, blobs);
        int left = before - gate.row.size();
        List<Someone> stayed = new ArrayList<>(gate.row);
        for (TreeSet<Integer> blob : blobs) {
            share(stayed, blob);
        }
        newcomers(gate, blobs, stayed);
        handOut(gate);
        movePaddles(gate);
        return left;
    }

    private static void take(Gate gate) {
        gate.taken.add(gate.word);
        gate.seen = new TreeSet<>();
        for (int beam = 0; beam < 10; beam++) {
            int covered = 0;
            for (int word : gate.taken.subList(gate.taken.size() - 3, gate.taken.size())) {
                covered += word / (1 << beam) % 2;
            }
            if (covered >= 2) {
                gate.seen.add(beam);
            }
        }
    }

    private void send(Gate gate, List<TreeSet<Integer>> blobs) {
        List<Someone> stayed = new ArrayList<>();
        for (Someone one : gate.row) {
            one.old = one.interval;
            one.goal = blobs.stream().filter(blob -> meets(one.old, blob)).findFirst().orElse(null);
            if (one.goal == null) {
                leave(gate, one);
            } else {
                stayed.add(one);
            }
        }
        gate.row = stayed;
    }

    private void leave(Gate gate, Someone one) {
        boolean high = List.of(7, 8, 9).contains(one.interval.last());
        boolean low = List.of(0, 1, 2).contains(one.interval.first());
        boolean through = one.side == 0 && high || one.side == 1 && low;
        boolean turned = !through && (one.side == 0 && low || one.side == 1 && high);
        if (through) {
            gate.counts[one.token != null ? 0 : 1]++;
            shown[one.token != null ? 1 : 2]++;
            gate.counts[4] += one.length >= 6 ? 1 : 0;
            shown[3] += one.length >= 6 ? 1 : 0;
        } else {
            gate.counts[turned ? 2 : 3]++;
            shown[turned ? 4 : 5]++;
            if (one.token != null) {
                refundList.add(one.token.account());
                shown[6]++;
            }
        }
    }

    private void share(List<Someone> stayed, TreeSet<Integer> blob) {
        List<Someone> sharers = stayed.stream().filter(one -> one.goal == blob).toList();
        int n = blob.size();
        int k = sharers.size();
        shown[7] += k > 1 ? 1 : 0;
        shown[8] += k > n ? 1 : 0;
        for (int j = 0; j < k; j++) {
            TreeSet<Integer> beams = range(blob.first() + j * n / k, blob.first() + (j + 1) * n / k - 1);
            beams.add(blob.first() + j * n / k);
            sharers.get(j).take(beams);
        }
    }

    private void newcomers(Gate gate, List<TreeSet<Integer>> blobs, List<Someone> stayed) {
        for (TreeSet<Integer> blob : blobs) {
            if (stayed.stream().anyMatch(one -> one.goal == blob)) {
                continue;
            }
            if (gate.row.size() >= 4) {
                shown[9]++;
                continue;
            }
            Someone newcomer = new Someone();
            newcomer.goal = blob;
            newcomer.take(blob);
            newcomer.side = blob.first() + blob.last() < 9 ? 0 : 1;
            for (int i = stayed.size() - 1; i >= 0; i--) {
                if (meets(stayed.get(i).old, blob)) {
                    shown[10] += newcomer.side != stayed.get(i).side ? 1 : 0;
                    newcomer.side = stayed.get(i).side;
                }
            }
            int place = 0;
            while (place < gate.row.size() && gate.row.get(place).goal.first() < blob.first()) {
                place++;
            }
            gate.row.add(place, newcomer);
        }
    }

    private void handOut(Gate gate) {
        for (Someone one : gate.row) {
            boolean reached = one.side == 0 ? one.interval.last() >= 4 : one.interval.first() <= 5;
            List<Token> waiting = gate.waiting.get(one.side);
            if (one.token == null && reached && !waiting.isEmpty()) {
                one.token = waiting.remove(0);
            }
        }
    }

    private void movePaddles(Gate gate) {
        boolean open = alarmOn || gate.row.stream().anyMatch(one -> one.token != null);
        boolean between = !gate.seen.subSet(3, true, 6, true).isEmpty();
        gate.order = open && gate.angle < 90 ? 2 : !open && gate.angle > 0 && !between ? -2 : 0;
        gate.angle += gate.order;
        shown[11] += !open && gate.angle > 0 && between ? 1 : 0;
    }

    int token(int lane, int side, int account) {
        Gate gate = gates[lane];
        if (gate.mode == 3 || gate.mode == 1 && side == 1 || gate.mode == 2 && side == 0) {
            return PairedGates.CLOSED;
        }
        if (acceptedTokens.stream().anyMatch(t -> t.account() == account && time - t.tick() < 300)) {
            return PairedGates.REPEATED;
        }
        if (gate.waiting.get(side).size() == 6) {
            return PairedGates.FULL;
        }
        Token made = new Token(account, time);
        acceptedTokens.add(made);
        gate.waiting.get(side).add(made);
        return PairedGates.ACCEPTED;
    }

    int cancel(int lane, int side) {
        List<Token> waiting = gates[lane].waiting.get(side);
        if (waiting.isEmpty()) {
            return PairedGates.NONE;
        }
        refundList.add(waiting.get(0).account());
        return waiting.remove(0).account();
    }

    /** How many are refunded, or -1 where the lane has bodies. */
    int mode(int lane, int mode) {
        Gate gate = gates[lane];
        if (!gate.row.isEmpty()) {
            return -1;
        }
        gate.mode = mode;
        int before = refundList.size();
        for (int side = 0; side < 2; side++) {
            while (mode != 0 && mode != side + 1 && !gate.waiting.get(side).isEmpty()) {
                cancel(lane, side);
            }
        }
        return refundList.size() - before;
    }
}
