/** Promises 5 to 7, 14 and 18 to 21 by the document's words: all rows of LABELS are tried, one by one. */
public final class LiteralTest {
    private static final Check CHECK = new Check();

    public static void main(String[] args) {
        for (int pairs = 0; pairs < 16; pairs++) {
            ofATask(2, pairs, 7);
        }
        for (int pairs = 0; pairs < 512; pairs++) {
            ofATask(3, pairs, 4);
        }
        // A few tasks of 3 on longer rings: unlike ones, a circle, a circle with a way to stay, one way in and out.
        for (int pairs : new int[] {0b011_101_110, 0b001_100_010, 0b001_110_010, 0b100_110_010}) {
            ofATask(3, pairs, 6);
        }
        CHECK.end();
    }

    private static void ofATask(int k, int pairs, int most) {
        boolean[][] may = new boolean[k][k];
        for (int i = 0; i < k * k; i++) {
            may[i / k][i % k] = (pairs >> i & 1) == 1;
        }
        boolean mirrored = true;
        for (int n = 1; n <= most; n++) {
            mirrored &= rings(may, n);
            walks(may, n - 1);
        }
        // Two LABELS of one BLOCK that stand beside one another do so on a GOOD RING of at most k POSTS.
        CHECK.due("mirrors() of " + pairs, made(may).mirrors(), mirrored ? 1 : 0);
        for (int n = 3; n <= most; n++) {
            atHand(may, n);
        }
    }

    private static RingTasks made(boolean[][] may) {
        RingTasks x = new RingTasks();
        x.labels(may.length);
        for (int a = 0; a < may.length; a++) {
            for (int b = 0; b < may.length; b++) {
                x.allow(a, b, may[a][b]);
            }
        }
        return x;
    }

    /** The next row by its first LABELS, or false behind the last one. */
    private static boolean next(int[] row, int k) {
        for (int i = row.length - 1; i >= 0; i--) {
            row[i]++;
            if (row[i] < k) {
                return true;
            }
            row[i] = 0;
        }
        return false;
    }

    private static boolean isFault(boolean[][] may, int[] ring, int post) {
        return !may[ring[post]][ring[(post + 1) % ring.length]];
    }

    private static int faults(boolean[][] may, int[] ring) {
        int found = 0;
        for (int post = 0; post < ring.length; post++) {
            found += isFault(may, ring, post) ? 1 : 0;
        }
        return found;
    }

    /** Tells whether all GOOD RINGS of n are GOOD the other way round, too. */
    private static boolean rings(boolean[][] may, int n) {
        int[] ring = new int[n];
        int good = 0;
        boolean mirrored = true;
        do {
            if (faults(may, ring) == 0) {
                good++;
                mirrored &= faults(may, turned(ring)) == 0;
            }
        } while (next(ring, may.length));
        RingTasks x = made(may);
        int[] first = firstRing(may, n);
        CHECK.due("rings(" + n + ") of " + Show.task(x), x.rings(n), good);
        for (int post = 0; post < n; post++) {
            CHECK.due("first(" + n + ", " + post + ") of " + Show.task(x), x.first(n, post), first == null ? -9 : first[post]);
        }
        return mirrored;
    }

    private static int[] firstRing(boolean[][] may, int n) {
        int[] ring = new int[n];
        do {
            if (faults(may, ring) == 0) {
                return ring;
            }
        } while (next(ring, may.length));
        return null;
    }

    private static int[] turned(int[] ring) {
        int[] turned = new int[ring.length];
        for (int post = 0; post < ring.length; post++) {
            turned[post] = ring[ring.length - 1 - post];
        }
        return turned;
    }

    private static void walks(boolean[][] may, int t) {
        int k = may.length;
        int[][] found = new int[k][k];
        int[] row = new int[t + 1];
        do {
            boolean walk = true;
            for (int i = 0; i < t; i++) {
                walk &= may[row[i]][row[i + 1]];
            }
            found[row[0]][row[t]] += walk ? 1 : 0;
        } while (next(row, k));
        RingTasks x = made(may);
        for (int a = 0; a < k; a++) {
            for (int b = 0; b < k; b++) {
                CHECK.due("walks(" + a + ", " + b + ", " + t + ") of " + Show.task(x), x.walks(a, b, t), found[a][b]);
            }
        }
    }

    private static void atHand(boolean[][] may, int n) {
        int[] first = firstRing(may, n);
        int[] ring = new int[n];
        do {
            for (int post = 0; post < n; post++) {
                RingTasks x = made(may);
                Show.put(x, text(ring));
                String of = " of " + text(ring) + " in " + Show.task(x);
                CHECK.due("faults()" + of, x.faults(), faults(may, ring));
                CHECK.due("fault(" + post + ")" + of, x.fault(post), faultFrom(may, ring, post));
                int[] mended = ring.clone();
                CHECK.due("mend(" + post + ")" + of, x.mend(post), mend(may, mended, post));
                CHECK.dueText("labels behind mend(" + post + ")" + of, Show.labels(x), text(mended));
                CHECK.due("fresh()" + of, x.fresh(), first == null ? -9 : 1);
                CHECK.dueText("labels behind fresh()" + of, Show.labels(x), text(first == null ? mended : first));
            }
        } while (next(ring, may.length));
    }

    private static int faultFrom(boolean[][] may, int[] ring, int start) {
        for (int i = 0; i < ring.length; i++) {
            int post = (start + i) % ring.length;
            if (isFault(may, ring, post)) {
                return post;
            }
        }
        return -9;
    }

    private static int mend(boolean[][] may, int[] ring, int post) {
        int n = ring.length;
        for (int r = 0; 2 * r + 1 <= n; r++) {
            int[] row = new int[2 * r + 1];
            int start = post - r + n;
            do {
                int[] tried = ring.clone();
                for (int i = 0; i < row.length; i++) {
                    tried[(start + i) % n] = row[i];
                }
                boolean fits = !isFault(may, tried, (start - 1) % n);
                for (int i = 0; i < row.length; i++) {
                    fits &= !isFault(may, tried, (start + i) % n);
                }
                if (fits) {
                    System.arraycopy(tried, 0, ring, 0, n);
                    return r;
                }
            } while (next(row, may.length));
        }
        return -9;
    }

    private static String text(int[] row) {
        StringBuilder told = new StringBuilder();
        for (int a : row) {
            told.append(a);
        }
        return told.toString();
    }
}
