import java.util.ArrayList;
import java.util.Arrays;
import java.util.List;

/** PRESSED in two plain ways: by cheapest rows of edges, and by trying every number. */
final class PlainFlow {
    private static final long BIG = 1L << 32;

    final long[] nets;
    final long[][] bounds;
    final long[] through;
    private final int n;
    private List<long[]> edges;

    /** No bounds of through if that is null. */
    PlainFlow(long[] nets, long[][] bounds, long[] through) {
        this.nets = nets;
        this.bounds = bounds;
        this.through = through;
        this.n = nets.length;
    }

    long least() {
        long[][] x = cheapest(-1, -1, 0);
        if (x == null) {
            return -1;
        }
        long sum = 0;
        for (long[] row : x) {
            for (long v : row) {
                sum += v;
            }
        }
        return sum;
    }

    long extreme(int a, int b, boolean high) {
        long[][] x = cheapest(a, b, high ? -1 : 1);
        return x == null ? -1 : x[a][b];
    }

    /** Each couple in its turn as low as it goes, and no higher from then on. */
    long[][] first() {
        if (least() < 0) {
            return null;
        }
        long[][] narrowed = new long[n][];
        for (int a = 0; a < n; a++) {
            narrowed[a] = bounds[a].clone();
        }
        PlainFlow rest = new PlainFlow(nets, narrowed, through);
        for (int a = 0; a < n; a++) {
            for (int b = 0; b < n; b++) {
                if (a != b && narrowed[a][b] > 0) {
                    narrowed[a][b] = rest.extreme(a, b, false);
                }
            }
        }
        return narrowed;
    }

    /** Every unit costs BIG, but for those of one couple, which cost a little more or less. */
    private long[][] cheapest(int a, int b, long more) {
        edges = new ArrayList<>();
        int source = 2 * n;
        int sink = 2 * n + 1;
        for (int i = 0; i < n; i++) {
            for (int j = 0; j < n; j++) {
                if (i != j) {
                    edge(2 * i + 1, 2 * j, bounds[i][j], BIG + (i == a && j == b ? more : 0));
                }
            }
        }
        for (int i = 0; i < n; i++) {
            edge(2 * i, 2 * i + 1, through == null ? Long.MAX_VALUE / 4 : through[i], 0);
            edge(source, 2 * i + 1, Math.max(0, nets[i]), 0);
            edge(2 * i, sink, Math.max(0, -nets[i]), 0);
        }
        long lacking = 0;
        for (long net : nets) {
            lacking += Math.max(0, net);
        }
        while (lacking > 0) {
            long moved = cheapestRow(source, sink);
            if (moved == 0) {
                return null;
            }
            lacking -= moved;
        }
        long[][] x = new long[n][n];
        int e = 0;
        for (int i = 0; i < n; i++) {
            for (int j = 0; j < n; j++) {
                if (i != j) {
                    x[i][j] = edges.get(e + 1)[2];
                    e += 2;
                }
            }
        }
        return x;
    }

    private void edge(int from, int to, long room, long cost) {
        edges.add(new long[] {from, to, room, cost});
        edges.add(new long[] {to, from, 0, -cost});
    }

    private long cheapestRow(int source, int sink) {
        long[] cost = new long[2 * n + 2];
        int[] by = new int[2 * n + 2];
        Arrays.fill(cost, Long.MAX_VALUE / 2);
        cost[source] = 0;
        boolean changed = true;
        while (changed) {
            changed = false;
            for (int e = 0; e < edges.size(); e++) {
                long[] edge = edges.get(e);
                int from = (int) edge[0];
                int to = (int) edge[1];
                if (edge[2] > 0 && cost[from] < Long.MAX_VALUE / 2 && cost[from] + edge[3] < cost[to]) {
                    cost[to] = cost[from] + edge[3];
                    by[to] = e;
                    changed = true;
                }
            }
        }
        if (cost[sink] == Long.MAX_VALUE / 2) {
            return 0;
        }
        long moved = Long.MAX_VALUE;
        for (int node = sink; node != source; node = (int) edges.get(by[node])[0]) {
            moved = Math.min(moved, edges.get(by[node])[2]);
        }
        for (int node = sink; node != source; node = (int) edges.get(by[node])[0]) {
            edges.get(by[node])[2] -= moved;
            edges.get(by[node] ^ 1)[2] += moved;
        }
        return moved;
    }

    // ---- by trying every number

    private long bestSum;
    private long[] bestRow;
    private long[] low;
    private long[] high;

    /** The numbers of the first least way, then the least and the greatest of each couple; null: none. */
    long[][] tryAll() {
        bestSum = Long.MAX_VALUE;
        tryFrom(0, new long[n * n], 0);
        return bestRow == null ? null : new long[][] {bestRow, low, high};
    }

    private void tryFrom(int cell, long[] row, long sum) {
        if (sum > bestSum) {
            return;
        }
        if (cell == n * n) {
            if (fits(row)) {
                note(row, sum);
            }
            return;
        }
        long most = cell / n == cell % n ? 0 : bounds[cell / n][cell % n];
        for (long v = 0; v <= most; v++) {
            row[cell] = v;
            tryFrom(cell + 1, row, sum + v);
        }
        row[cell] = 0;
    }

    private boolean fits(long[] row) {
        for (int p = 0; p < n; p++) {
            long out = 0;
            long in = 0;
            for (int other = 0; other < n; other++) {
                out += row[p * n + other];
                in += row[other * n + p];
            }
            if (out - in != nets[p] || through != null && Math.min(out, in) > through[p]) {
                return false;
            }
        }
        return true;
    }

    private void note(long[] row, long sum) {
        if (sum < bestSum) {
            bestSum = sum;
            bestRow = row.clone();
            low = row.clone();
            high = row.clone();
        }
        for (int i = 0; i < row.length; i++) {
            low[i] = Math.min(low[i], row[i]);
            high[i] = Math.max(high[i], row[i]);
        }
    }
}
