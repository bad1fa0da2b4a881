import java.math.BigInteger;
import java.util.TreeSet;

/** The document's words done slowly and in other ways than RingTasks does them, for arguments that are not refused. */
final class Model {
    /** Far beyond what RingTasks looks at: lengths of walks up to here tell what holds for ever. */
    private static final int LONG = 200;

    int k = 3;
    boolean[][] may = unlikeOnes(3);
    int[] label = new int[3];
    int[] number = {0, 1, 2};

    static boolean[][] unlikeOnes(int k) {
        boolean[][] may = new boolean[k][k];
        for (int a = 0; a < k; a++) {
            for (int b = 0; b < k; b++) {
                may[a][b] = a != b;
            }
        }
        return may;
    }

    long labels(int newK) {
        int before = k;
        k = newK;
        may = unlikeOnes(k);
        label = new int[label.length];
        return before;
    }

    long allow(int a, int b, boolean now) {
        boolean before = may[a][b];
        may[a][b] = now;
        return before ? 1 : 0;
    }

    private BigInteger[][] power(int t) {
        BigInteger[][] m = new BigInteger[k][k];
        for (int a = 0; a < k; a++) {
            for (int b = 0; b < k; b++) {
                m[a][b] = a == b ? BigInteger.ONE : BigInteger.ZERO;
            }
        }
        for (int step = 0; step < t; step++) {
            BigInteger[][] on = new BigInteger[k][k];
            for (int a = 0; a < k; a++) {
                for (int b = 0; b < k; b++) {
                    on[a][b] = BigInteger.ZERO;
                    for (int c = 0; c < k; c++) {
                        on[a][b] = may[a][c] ? on[a][b].add(m[c][b]) : on[a][b];
                    }
                }
            }
            m = on;
        }
        return m;
    }

    private static long told(BigInteger many) {
        return many.min(BigInteger.TEN.pow(18)).longValueExact();
    }

    long rings(int n) {
        BigInteger[][] m = power(n);
        BigInteger sum = BigInteger.ZERO;
        for (int a = 0; a < k; a++) {
            sum = sum.add(m[a][a]);
        }
        return told(sum);
    }

    long walks(int a, int b, int t) {
        return told(power(t)[a][b]);
    }

    /** The first walk by its text, or null: the least of each label's text before the least text behind it. */
    private String firstWalk(int from, int to, int steps) {
        String[] least = new String[k];
        least[to] = Integer.toString(to);
        for (int step = 0; step < steps; step++) {
            String[] longer = new String[k];
            for (int a = 0; a < k; a++) {
                for (int b = 0; b < k; b++) {
                    if (may[a][b] && least[b] != null && (longer[a] == null || (a + least[b]).compareTo(longer[a]) < 0)) {
                        longer[a] = a + least[b];
                    }
                }
            }
            least = longer;
        }
        return least[from];
    }

    private String firstRing(int n) {
        String best = null;
        for (int a = 0; a < k; a++) {
            String walk = firstWalk(a, a, n);
            if (walk != null && (best == null || walk.compareTo(best) < 0)) {
                best = walk;
            }
        }
        return best == null ? null : best.substring(0, n);
    }

    long first(int n, int i) {
        String ring = firstRing(n);
        return ring == null ? RingTasks.NONE : ring.charAt(i) - '0';
    }

    private boolean[][] reach() {
        boolean[][] reach = new boolean[k][k];
        for (int a = 0; a < k; a++) {
            for (int b = 0; b < k; b++) {
                reach[a][b] = a == b || may[a][b];
            }
        }
        for (int c = 0; c < k; c++) {
            for (int a = 0; a < k; a++) {
                for (int b = 0; b < k; b++) {
                    reach[a][b] |= reach[a][c] && reach[c][b];
                }
            }
        }
        return reach;
    }

    long block(int a) {
        boolean[][] reach = reach();
        int b = 0;
        while (!(reach[a][b] && reach[b][a])) {
            b++;
        }
        return b;
    }

    long blocks() {
        TreeSet<Long> found = new TreeSet<>();
        for (int a = 0; a < k; a++) {
            found.add(block(a));
        }
        return found.size();
    }

    private boolean[] returns(int a) {
        boolean[] back = new boolean[LONG + 1];
        boolean[] here = new boolean[k];
        here[a] = true;
        for (int t = 0; t <= LONG; t++) {
            back[t] = here[a];
            boolean[] on = new boolean[k];
            for (int b = 0; b < k; b++) {
                for (int c = 0; c < k; c++) {
                    on[c] |= here[b] && may[b][c];
                }
            }
            here = on;
        }
        return back;
    }

    long pace(int a) {
        boolean[] back = returns(a);
        BigInteger pace = BigInteger.ZERO;
        for (int t = 1; t <= LONG; t++) {
            pace = back[t] ? pace.gcd(BigInteger.valueOf(t)) : pace;
        }
        return pace.longValueExact();
    }

    long kind() {
        boolean good = false;
        boolean blind = false;
        boolean near = false;
        for (int a = 0; a < k; a++) {
            good |= pace(a) > 0;
            blind |= may[a][a];
            near |= pace(a) == 1;
        }
        return !good ? 0 : blind ? 1 : near ? 2 : 3;
    }

    long sure() {
        boolean[] good = new boolean[LONG + 1];
        for (int a = 0; a < k; a++) {
            boolean[] back = returns(a);
            for (int n = 1; n <= LONG; n++) {
                good[n] |= back[n];
            }
        }
        return lastRun(good, 1);
    }

    long free(int a) {
        return lastRun(returns(a), 0);
    }

    private static long lastRun(boolean[] good, int least) {
        int start = LONG + 1;
        while (start > least && good[start - 1]) {
            start--;
        }
        // A run that holds for ever began long before; what only ends well is no such run.
        return start > LONG / 2 ? RingTasks.NONE : start;
    }

    /** By the rings themselves: an arc of a block lies on a good ring of at most k posts. */
    long mirrors() {
        for (int n = 1; n <= k; n++) {
            if (!mirrorsFrom(new int[n], 0)) {
                return 0;
            }
        }
        return 1;
    }

    private boolean mirrorsFrom(int[] ring, int post) {
        int n = ring.length;
        if (post == n) {
            boolean good = true;
            boolean back = true;
            for (int i = 0; i < n; i++) {
                good &= may[ring[i]][ring[(i + 1) % n]];
                back &= may[ring[(i + 1) % n]][ring[i]];
            }
            return !good || back;
        }
        for (int a = 0; a < k; a++) {
            ring[post] = a;
            if ((post == 0 || may[ring[post - 1]][a]) && !mirrorsFrom(ring, post + 1)) {
                return false;
            }
        }
        return true;
    }

    long ring(int n) {
        int before = label.length;
        label = new int[n];
        number = new int[n];
        for (int i = 0; i < n; i++) {
            number[i] = i;
        }
        return before;
    }

    long put(int post, int a) {
        int before = label[post];
        label[post] = a;
        return before;
    }

    private boolean isFault(int post) {
        return !may[label[post]][label[(post + 1) % label.length]];
    }

    long faults() {
        int found = 0;
        for (int i = 0; i < label.length; i++) {
            found += isFault(i) ? 1 : 0;
        }
        return found;
    }

    long fault(int post) {
        for (int i = 0; i < label.length; i++) {
            if (isFault((post + i) % label.length)) {
                return (post + i) % label.length;
            }
        }
        return RingTasks.NONE;
    }

    long mend(int post) {
        int n = label.length;
        for (int r = 0; 2 * r + 1 <= n; r++) {
            int length = 2 * r + 1;
            int start = Math.floorMod(post - r, n);
            String row = length == n ? firstRing(n)
                    : firstWalk(label[Math.floorMod(start - 1, n)], label[(start + length) % n], length + 1);
            if (row != null) {
                for (int i = 0; i < length; i++) {
                    label[(start + i) % n] = row.charAt(length == n ? i : i + 1) - '0';
                }
                return r;
            }
        }
        return RingTasks.NONE;
    }

    long fresh() {
        String ring = firstRing(label.length);
        if (ring == null) {
            return RingTasks.NONE;
        }
        for (int i = 0; i < label.length; i++) {
            label[i] = ring.charAt(i) - '0';
        }
        return 1;
    }

    long number(int post, int v) {
        int before = number[post];
        number[post] = v;
        return before;
    }

    private int greatest() {
        int greatest = 0;
        for (int v : number) {
            greatest = Math.max(greatest, v);
        }
        return greatest;
    }

    private void doRound() {
        int n = number.length;
        int[] now = new int[n];
        for (int i = 0; i < n; i++) {
            int v = number[i];
            int w = number[(i + 1) % n];
            int p = 0;
            while (v / (1 << p) % 2 == w / (1 << p) % 2) {
                p++;
            }
            now[i] = 2 * p + v / (1 << p) % 2;
        }
        number = now;
    }

    long round() {
        if (likeNeighbours() > 0) {
            return RingTasks.STATE;
        }
        doRound();
        return greatest();
    }

    long colours() {
        if (likeNeighbours() > 0) {
            return RingTasks.STATE;
        }
        int rounds = 0;
        for (; greatest() > 5; rounds++) {
            doRound();
        }
        int n = number.length;
        for (int c = 5; c >= 3; c--) {
            int[] now = number.clone();
            for (int i = 0; i < n; i++) {
                if (number[i] == c) {
                    TreeSet<Integer> left = new TreeSet<>(java.util.List.of(0, 1, 2));
                    left.remove(number[(i + 1) % n]);
                    left.remove(number[(i + n - 1) % n]);
                    now[i] = left.first();
                }
            }
            number = now;
        }
        return rounds;
    }

    long take() {
        if (greatest() >= k) {
            return RingTasks.STATE;
        }
        label = number.clone();
        return 1;
    }

    private int likeNeighbours() {
        int like = 0;
        for (int i = 0; i < number.length; i++) {
            like += number[i] == number[(i + 1) % number.length] ? 1 : 0;
        }
        return like;
    }

    private int pairs() {
        int pairs = 0;
        for (boolean[] row : may) {
            for (boolean b : row) {
                pairs += b ? 1 : 0;
            }
        }
        return pairs;
    }

    private static int unlike(int[] row) {
        TreeSet<Integer> found = new TreeSet<>();
        for (int v : row) {
            found.add(v);
        }
        return found.size();
    }

    long count(int what) {
        int[] counts = {k, pairs(), label.length, unlike(number), likeNeighbours(), unlike(label)};
        return counts[what];
    }
}
