import java.util.Arrays;

/**
 * Colours by looking near: posts in a ring that each take a label so that neighbours may stand
 * beside one another, a ring mended near a place, and numbers of posts that become few colours.
 */
public final class RingTasks {
    public static final int UNKNOWN = -1, OUTSIDE = -2, STATE = -3, FULL = -4, NONE = -9;

    private static final int MOST_LABELS = 6;
    private static final int LEAST_AT_HAND = 3;
    private static final int MOST_POSTS = 60;
    // With 6 labels a pace shows within 16 steps and the last gap ends before 26 steps, so what
    // holds of walks of up to 60 steps tells what holds of walks of any length.
    private static final int MOST_STEPS = 60;
    private static final int MOST_NUMBER = 1000000000;
    private static final long MOST_TOLD = 1000000000000000000L;
    private static final int LAST_COLOUR = 5;
    private static final int LAST_KEPT_COLOUR = 2;
    // Four rounds are enough for every number that a post can have.
    private static final int MOST_ROUNDS = 100;

    private static final int NEVER = 0;
    private static final int BLIND = 1;
    private static final int NEAR = 2;
    private static final int FAR = 3;

    private final Task task;
    private final Posts posts;

    public RingTasks() {
        task = new Task(3);
        posts = new Posts(LEAST_AT_HAND);
    }

    // ---- the task

    public int labels(int k) {
        if (k < 1 || k > MOST_LABELS) {
            return OUTSIDE;
        }
        int before = task.size;
        task.restart(k);
        posts.clearLabels();
        return before;
    }

    public int allow(int a, int b, boolean may) {
        if (!task.has(a) || !task.has(b)) {
            return UNKNOWN;
        }
        int before = asNumber(task.mayFollow(a, b));
        task.decide(a, b, may);
        return before;
    }

    public int may(int a, int b) {
        if (!task.has(a) || !task.has(b)) {
            return UNKNOWN;
        }
        return asNumber(task.mayFollow(a, b));
    }

    public long rings(int n) {
        if (!isRingSize(n)) {
            return OUTSIDE;
        }
        return task.ringCount(n);
    }

    public int first(int n, int i) {
        if (!isRingSize(n)) {
            return OUTSIDE;
        }
        if (i < 0 || i >= n) {
            return UNKNOWN;
        }
        return task.findRing(n) ? task.walk[i] : NONE;
    }

    public long walks(int a, int b, int t) {
        if (!task.has(a) || !task.has(b)) {
            return UNKNOWN;
        }
        if (t < 0 || t > MOST_STEPS) {
            return OUTSIDE;
        }
        return task.walkCount(a, b, t);
    }

    public int blocks() {
        int found = 0;
        for (int a = 0; a < task.size; a++) {
            if (task.leastOfBlock(a) == a) {
                found++;
            }
        }
        return found;
    }

    public int block(int a) {
        return task.has(a) ? task.leastOfBlock(a) : UNKNOWN;
    }

    public int pace(int a) {
        return task.has(a) ? task.paceOf(a) : UNKNOWN;
    }

    public int kind() {
        return task.kindOfTask();
    }

    public int sure() {
        return task.hasPaceOne() ? Math.max(1, endOfGaps(task.ringLengths())) : NONE;
    }

    public int free(int a) {
        if (!task.has(a)) {
            return UNKNOWN;
        }
        return task.paceOf(a) == 1 ? endOfGaps(task.returnLengths(a)) : NONE;
    }

    public int mirrors() {
        return asNumber(task.isMirrored());
    }

    // ---- the ring at hand

    public int ring(int n) {
        if (n < LEAST_AT_HAND || n > MOST_POSTS) {
            return OUTSIDE;
        }
        int before = posts.size;
        posts.restart(n);
        return before;
    }

    public int put(int post, int label) {
        if (!posts.has(post) || !task.has(label)) {
            return UNKNOWN;
        }
        int before = posts.label[post];
        posts.label[post] = label;
        return before;
    }

    public int at(int post) {
        return posts.has(post) ? posts.label[post] : UNKNOWN;
    }

    public int faults() {
        int found = 0;
        for (int post = 0; post < posts.size; post++) {
            if (posts.isFault(post, task)) {
                found++;
            }
        }
        return found;
    }

    public int fault(int post) {
        return posts.has(post) ? posts.faultFrom(post, task) : UNKNOWN;
    }

    public int mend(int post) {
        return posts.has(post) ? posts.mendAround(post, task) : UNKNOWN;
    }

    public int fresh() {
        if (!task.findRing(posts.size)) {
            return NONE;
        }
        posts.putWalk(0, posts.size, task, 0);
        return 1;
    }

    // ---- numbers

    public int number(int post, int v) {
        if (!posts.has(post)) {
            return UNKNOWN;
        }
        if (v < 0 || v > MOST_NUMBER) {
            return OUTSIDE;
        }
        int before = posts.number[post];
        posts.number[post] = v;
        return before;
    }

    public int told(int post) {
        return posts.has(post) ? posts.number[post] : UNKNOWN;
    }

    public int round() {
        if (posts.likeNeighbours() > 0) {
            return STATE;
        }
        posts.doRound();
        return posts.greatestNumber();
    }

    public int colours() {
        if (posts.likeNeighbours() > 0) {
            return STATE;
        }
        int rounds = 0;
        while (rounds < MOST_ROUNDS && posts.greatestNumber() > LAST_COLOUR) {
            posts.doRound();
            rounds++;
        }
        for (int colour = LAST_COLOUR; colour > LAST_KEPT_COLOUR; colour--) {
            posts.giveUpColour(colour);
        }
        return rounds;
    }

    public int take() {
        if (posts.greatestNumber() >= task.size) {
            return STATE;
        }
        posts.takeNumbers();
        return 1;
    }

    public int count(int what) {
        switch (what) {
            case 0:
                return task.size;
            case 1:
                return task.pairCount();
            case 2:
                return posts.size;
            case 3:
                return posts.unlike(posts.number);
            case 4:
                return posts.likeNeighbours();
            case 5:
                return posts.unlike(posts.label);
            default:
                return OUTSIDE;
        }
    }

    private static int asNumber(boolean yes) {
        return yes ? 1 : 0;
    }

    private static boolean isRingSize(int n) {
        return n >= 1 && n <= MOST_POSTS;
    }

    /** The least length from which on a set of lengths, bit t for length t, has them all. */
    private static int endOfGaps(long lengths) {
        int end = MOST_STEPS + 1;
        while (end > 0 && (lengths >> (end - 1) & 1L) == 1L) {
            end--;
        }
        return end;
    }

    /** The LABELS, and which MAY STAND behind which. A set of LABELS is a mask, bit a for LABEL a. */
    private static final class Task {
        int size;
        /** The set of LABELS that MAY STAND behind each LABEL. */
        final int[] behind = new int[MOST_LABELS];
        /** The LABELS of the WALK or RING that was found last. */
        final int[] walk = new int[MOST_STEPS + 1];
        // These rows are made once and used again, as all that a run makes is counted.
        final int[] reaching = new int[MOST_STEPS + 1];
        final long[] ways = new long[MOST_LABELS];
        final long[] waysOn = new long[MOST_LABELS];

        Task(int k) {
            restart(k);
        }

        void restart(int k) {
            size = Math.min(k, MOST_LABELS);
            int all = (1 << size) - 1;
            for (int a = 0; a < size; a++) {
                behind[a] = all & ~(1 << a);
            }
        }

        boolean has(int label) {
            return label >= 0 && label < size;
        }

        boolean mayFollow(int a, int b) {
            return has(a) && has(b) && holds(behind[a], b);
        }

        void decide(int a, int b, boolean may) {
            if (has(a) && has(b)) {
                behind[a] = may ? behind[a] | 1 << b : behind[a] & ~(1 << b);
            }
        }

        int pairCount() {
            int pairs = 0;
            for (int a = 0; a < size; a++) {
                pairs += Integer.bitCount(behind[a]);
            }
            return pairs;
        }

        long ringCount(int n) {
            // Six terms of at most 10 to the 18 each still fit a long.
            long sum = 0;
            for (int a = 0; a < size; a++) {
                sum += walkCount(a, a, n);
            }
            return Math.min(sum, MOST_TOLD);
        }

        long walkCount(int a, int b, int steps) {
            if (!has(a) || !has(b)) {
                return 0;
            }
            Arrays.fill(ways, 0L);
            ways[a] = 1;
            for (int step = 0; step < steps; step++) {
                stepOn();
            }
            return ways[b];
        }

        private void stepOn() {
            for (int b = 0; b < size; b++) {
                long sum = 0;
                for (int a = 0; a < size; a++) {
                    if (mayFollow(a, b)) {
                        sum += ways[a];
                    }
                }
                // Kept at the bound at each step, so that no later sum leaves a long.
                waysOn[b] = Math.min(sum, MOST_TOLD);
            }
            System.arraycopy(waysOn, 0, ways, 0, size);
        }

        /** Puts the first GOOD RING of n into walk, if there is one. */
        boolean findRing(int n) {
            for (int a = 0; a < size; a++) {
                if (findWalk(a, a, n)) {
                    return true;
                }
            }
            return false;
        }

        /** Puts the first WALK of so many steps into walk, if there is one. */
        boolean findWalk(int from, int to, int steps) {
            if (!has(from) || !has(to) || steps < 0 || steps > MOST_STEPS) {
                return false;
            }
            lookBack(to, steps);
            if (!holds(reaching[steps], from)) {
                return false;
            }
            walk[0] = from;
            int here = from;
            for (int step = 1; step <= steps; step++) {
                here = least(behind[here] & reaching[steps - step]);
                walk[step] = here;
            }
            return true;
        }

        /** Makes reaching[t] the set of LABELS from which a WALK of t steps leads to a LABEL. */
        private void lookBack(int to, int steps) {
            reaching[0] = 1 << to;
            for (int t = 1; t <= steps && t <= MOST_STEPS; t++) {
                int set = 0;
                for (int a = 0; a < size; a++) {
                    if ((behind[a] & reaching[t - 1]) != 0) {
                        set |= 1 << a;
                    }
                }
                reaching[t] = set;
            }
        }

        int leastOfBlock(int a) {
            int there = reachedFrom(a);
            for (int b = 0; b < a; b++) {
                if (holds(there, b) && holds(reachedFrom(b), a)) {
                    return b;
                }
            }
            return a;
        }

        private int reachedFrom(int a) {
            int set = 1 << a;
            for (int step = 1; step < size; step++) {
                int grown = set;
                for (int b = 0; b < size; b++) {
                    if (holds(set, b)) {
                        grown |= behind[b];
                    }
                }
                set = grown;
            }
            return set;
        }

        int paceOf(int a) {
            long lengths = returnLengths(a) & ~1L;
            if (lengths == 0L) {
                return 0;
            }
            // Whoever comes back at all does so within as many steps as there are LABELS.
            int pace = size;
            while (pace > 1 && !dividesAll(pace, lengths)) {
                pace--;
            }
            return pace;
        }

        private static boolean dividesAll(int divisor, long lengths) {
            for (int t = 0; t <= MOST_STEPS; t++) {
                if ((lengths >> t & 1L) == 1L && (divisor < 1 || t % divisor != 0)) {
                    return false;
                }
            }
            return true;
        }

        /** The lengths of WALKS from a LABEL to itself: bit t for t steps. */
        long returnLengths(int a) {
            lookBack(a, MOST_STEPS);
            long lengths = 0;
            for (int t = 0; t <= MOST_STEPS; t++) {
                if (holds(reaching[t], a)) {
                    lengths |= 1L << t;
                }
            }
            return lengths;
        }

        /** For which n there are GOOD RINGS: bit n (bit 0 is set, too). */
        long ringLengths() {
            long lengths = 0;
            for (int a = 0; a < size; a++) {
                lengths |= returnLengths(a);
            }
            return lengths;
        }

        boolean hasPaceOne() {
            for (int a = 0; a < size; a++) {
                if (paceOf(a) == 1) {
                    return true;
                }
            }
            return false;
        }

        int kindOfTask() {
            long lengths = ringLengths() & ~1L;
            if (lengths == 0L) {
                return NEVER;
            }
            if ((lengths & 2L) != 0L) {
                return BLIND;
            }
            return hasPaceOne() ? NEAR : FAR;
        }

        boolean isMirrored() {
            for (int a = 0; a < size; a++) {
                for (int b = 0; b < a; b++) {
                    boolean oneWayOnly = mayFollow(a, b) != mayFollow(b, a);
                    if (oneWayOnly && leastOfBlock(a) == leastOfBlock(b)) {
                        return false;
                    }
                }
            }
            return true;
        }

        private static boolean holds(int set, int label) {
            return (set >> label & 1) == 1;
        }

        private static int least(int set) {
            int label = 0;
            while (label < MOST_LABELS - 1 && !holds(set, label)) {
                label++;
            }
            return label;
        }
    }

    /** THE RING AT HAND: its POSTS with their LABELS and NUMBERS. */
    private static final class Posts {
        int size;
        final int[] label = new int[MOST_POSTS];
        final int[] number = new int[MOST_POSTS];

        Posts(int n) {
            restart(n);
        }

        void restart(int n) {
            size = Math.min(n, MOST_POSTS);
            clearLabels();
            for (int post = 0; post < size; post++) {
                number[post] = post;
            }
        }

        void clearLabels() {
            Arrays.fill(label, 0);
        }

        boolean has(int post) {
            return post >= 0 && post < size;
        }

        private int next(int post) {
            return post + 1 < size ? post + 1 : 0;
        }

        private int previous(int post) {
            return post > 0 ? post - 1 : size - 1;
        }

        boolean isFault(int post, Task task) {
            return !task.mayFollow(label[post], label[next(post)]);
        }

        int faultFrom(int start, Task task) {
            int post = start;
            for (int seen = 0; seen < size; seen++) {
                if (isFault(post, task)) {
                    return post;
                }
                post = next(post);
            }
            return NONE;
        }

        int mendAround(int post, Task task) {
            int first = post;
            int last = post;
            for (int r = 0; 2 * r + 1 <= size; r++) {
                if (mendStretch(first, last, 2 * r + 1, task)) {
                    return r;
                }
                first = previous(first);
                last = next(last);
            }
            return NONE;
        }

        /** Puts the first LABELS that fit on the POSTS from first to last, if any fit. */
        private boolean mendStretch(int first, int last, int length, Task task) {
            // Where no POST stays as it is, the stretch meets itself, as a RING does.
            boolean whole = length == size;
            boolean found = whole
                    ? task.findRing(length)
                    : task.findWalk(label[previous(first)], label[next(last)], length + 1);
            if (found) {
                putWalk(first, length, task, whole ? 0 : 1);
            }
            return found;
        }

        /** Puts LABELS of the walk that was found, from its place skip on, on POSTS from start on. */
        void putWalk(int start, int length, Task task, int skip) {
            int post = start;
            for (int i = skip; i < skip + length && i < task.walk.length; i++) {
                label[post] = task.walk[i];
                post = next(post);
            }
        }

        int likeNeighbours() {
            int like = 0;
            for (int post = 0; post < size; post++) {
                if (number[post] == number[next(post)]) {
                    like++;
                }
            }
            return like;
        }

        int greatestNumber() {
            int greatest = 0;
            for (int post = 0; post < size; post++) {
                greatest = Math.max(greatest, number[post]);
            }
            return greatest;
        }

        void doRound() {
            // Each POST looks only at the one behind it, which is still as it was, but for the last.
            int firstBefore = number[0];
            for (int post = 0; post < size; post++) {
                int behind = post + 1 < size ? number[post + 1] : firstBefore;
                number[post] = shortened(number[post], behind);
            }
        }

        private static int shortened(int v, int w) {
            int unlike = v ^ w;
            // The lowest bit less one has a bit at each place below it.
            int place = Integer.bitCount((unlike & -unlike) - 1);
            return 2 * place + (v >> place & 1);
        }

        void giveUpColour(int colour) {
            // No two neighbours have it, so one after the other comes out as all at once.
            for (int post = 0; post < size; post++) {
                if (number[post] == colour) {
                    number[post] = leastBeside(number[previous(post)], number[next(post)]);
                }
            }
        }

        private static int leastBeside(int x, int y) {
            for (int colour = 0; colour < LAST_KEPT_COLOUR; colour++) {
                if (colour != x && colour != y) {
                    return colour;
                }
            }
            return LAST_KEPT_COLOUR;
        }

        void takeNumbers() {
            System.arraycopy(number, 0, label, 0, size);
        }

        int unlike(int[] row) {
            int found = 0;
            for (int post = 0; post < size && post < row.length; post++) {
                if (!standsBefore(row, post)) {
                    found++;
                }
            }
            return found;
        }

        private static boolean standsBefore(int[] row, int end) {
            for (int i = 0; i < end; i++) {
                if (row[i] == row[end]) {
                    return true;
                }
            }
            return false;
        }
    }
}
