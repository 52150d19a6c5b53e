import java.util.Arrays;

/**
 * Functions put behind the ones that call them most, in clusters that are not too great, the
 * densest cluster first.
 */
public final class CallClusters {
    private static final int MAX_FUNCTIONS = 300;
    private static final int MAX_SIZE = 1000000;
    private static final int MAX_PAGE = 100000000;
    private static final int FIRST_PAGE = 4096;
    private static final int MAX_PAIRS = 2000;
    private static final int MAX_COUNT_TOLD = 1000000000;
    private static final long MAX_COUNT = 1000000000000L;

    private static final int NONE = -1;
    private static final long NO_SUCH_FUNCTIONS = -1;
    private static final long NO_SUCH_COUNT = -2;
    private static final long NO_PAIR_LEFT = -3;

    private static final int COST_OF_ROW = 0;
    private static final int COST_BY_NUMBER = 1;

    private final int[] sizes = new int[MAX_FUNCTIONS];
    private final CallTable table = new CallTable();
    private final Clustering clustering = new Clustering();
    private final Row placed = new Row();
    private final Row numbered = new Row();
    private int functionCount = 1;
    private int pageBytes = FIRST_PAGE;
    /** Whether something was told since the callers, the clusters and the row were worked out. */
    private boolean stale = true;

    /** One function without a size, PAGE 4096. */
    public CallClusters() {
    }

    /** Begins anew with n functions without sizes and calls; PAGE stays. */
    public boolean functions(int n) {
        if (n < 1 || n > MAX_FUNCTIONS) {
            return false;
        }
        functionCount = n;
        Arrays.fill(sizes, 0);
        table.forgetAll();
        stale = true;
        return true;
    }

    /** Sets a function's size; one of size 0 is none of the row. */
    public boolean size(int f, int bytes) {
        if (!isFunction(f) || bytes < 0 || bytes > MAX_SIZE) {
            return false;
        }
        sizes[f] = bytes;
        stale = true;
        return true;
    }

    /** Tells that f calls g so often more, and answers how often it does now, or why not. */
    public long call(int f, int g, int count) {
        if (!isFunction(f) || !isFunction(g)) {
            return NO_SUCH_FUNCTIONS;
        }
        if (count < 1 || count > MAX_COUNT_TOLD) {
            return NO_SUCH_COUNT;
        }
        int pair = table.pairFor(f, g);
        if (pair == NONE) {
            return NO_PAIR_LEFT;
        }
        stale = true;
        return table.raise(pair, count);
    }

    /** Sets PAGE, above which no two clusters are joined. */
    public boolean page(int bytes) {
        if (bytes < 1 || bytes > MAX_PAGE) {
            return false;
        }
        pageBytes = bytes;
        stale = true;
        return true;
    }

    /** The sum of all calls of a function. */
    public long heat(int f) {
        return isFunction(f) ? table.heatOf(f) : NONE;
    }

    /** The function that calls this one most. */
    public int caller(int f) {
        if (!hasSize(f)) {
            return NONE;
        }
        refresh();
        return table.callerOf(f);
    }

    /** How many functions the row has. */
    public int length() {
        refresh();
        return placed.memberCount();
    }

    /** Function k of the row. */
    public int row(int k) {
        refresh();
        return placed.memberAt(k);
    }

    /** Where a function begins in the row, in bytes. */
    public long begin(int f) {
        if (!hasSize(f)) {
            return NONE;
        }
        refresh();
        return placed.beginOf(f);
    }

    /** How many clusters there are. */
    public int clusters() {
        refresh();
        return clustering.clusterCount();
    }

    /** The first function of the cluster in which a function is. */
    public int cluster(int f) {
        if (!hasSize(f)) {
            return NONE;
        }
        refresh();
        return clustering.firstOf(f);
    }

    /** The cost of the row (0), or of the functions with sizes by number (1). */
    public long cost(int what) {
        switch (what) {
            case COST_OF_ROW:
                refresh();
                return table.costIn(placed);
            case COST_BY_NUMBER:
                refresh();
                return table.costIn(numbered);
            default:
                return NONE;
        }
    }

    private boolean isFunction(int f) {
        return f >= 0 && f < functionCount;
    }

    private boolean hasSize(int f) {
        return isFunction(f) && sizes[f] > 0;
    }

    /** Works out all that follows from what was told, once for all questions until more is told. */
    private void refresh() {
        if (!stale) {
            return;
        }
        table.findCallers(sizes);
        clustering.build(sizes, table, pageBytes);
        clustering.writeTo(placed, sizes);
        writeByNumber();
        stale = false;
    }

    private void writeByNumber() {
        numbered.empty();
        for (int f = 0; f < functionCount; f++) {
            if (sizes[f] > 0) {
                numbered.append(f, sizes[f]);
            }
        }
    }

    /** Who calls whom how often, the heat that follows from it, and each function's caller. */
    private static final class CallTable {
        private final int[] from = new int[MAX_PAIRS];
        private final int[] to = new int[MAX_PAIRS];
        private final long[] counts = new long[MAX_PAIRS];
        private final long[] heats = new long[MAX_FUNCTIONS];
        /** By function, the pair of its caller and itself, or NONE. */
        private final int[] strongest = new int[MAX_FUNCTIONS];
        private int used;

        void forgetAll() {
            used = 0;
            Arrays.fill(heats, 0);
        }

        /** The place of a pair, a new one if need be, or NONE if all places are taken by others. */
        int pairFor(int f, int g) {
            for (int i = 0; i < used; i++) {
                if (from[i] == f && to[i] == g) {
                    return i;
                }
            }
            if (used >= MAX_PAIRS) {
                return NONE;
            }
            from[used] = f;
            to[used] = g;
            counts[used] = 0;
            used++;
            return used - 1;
        }

        long raise(int pair, int more) {
            long now = Math.min(counts[pair] + more, MAX_COUNT);
            heats[to[pair]] += now - counts[pair];
            counts[pair] = now;
            return now;
        }

        long heatOf(int f) {
            return heats[f];
        }

        int callerOf(int f) {
            return strongest[f] == NONE ? NONE : from[strongest[f]];
        }

        void findCallers(int[] sizes) {
            Arrays.fill(strongest, NONE);
            for (int i = 0; i < used; i++) {
                if (from[i] != to[i] && sizes[from[i]] > 0 && isStronger(i, strongest[to[i]])) {
                    strongest[to[i]] = i;
                }
            }
        }

        private boolean isStronger(int pair, int than) {
            if (than == NONE || counts[pair] > counts[than]) {
                return true;
            }
            return counts[pair] == counts[than] && from[pair] < from[than];
        }

        long costIn(Row row) {
            long sum = 0;
            for (int i = 0; i < used; i++) {
                long a = row.beginOf(from[i]);
                long b = row.beginOf(to[i]);
                if (a != NONE && b != NONE) {
                    sum += counts[i] * Math.abs(a - b);
                }
            }
            return sum;
        }
    }

    /** Functions one behind the other, and where each begins. */
    private static final class Row {
        private final int[] members = new int[MAX_FUNCTIONS];
        /** By function, NONE for those that are not in the row. */
        private final long[] begins = new long[MAX_FUNCTIONS];
        private int used;
        private long end;

        void empty() {
            used = 0;
            end = 0;
            Arrays.fill(begins, NONE);
        }

        void append(int f, int bytes) {
            if (used >= MAX_FUNCTIONS) {
                return;
            }
            members[used] = f;
            used++;
            begins[f] = end;
            end += bytes;
        }

        int memberCount() {
            return used;
        }

        int memberAt(int k) {
            return k >= 0 && k < used ? members[k] : NONE;
        }

        long beginOf(int f) {
            return begins[f];
        }
    }

    /** The clusters, each known by its first function and held as a chain from it to its last. */
    private static final class Clustering {
        /** By function, the first of its cluster, or NONE for one without a size. */
        private final int[] first = new int[MAX_FUNCTIONS];
        /** By function, the one behind it in its cluster, or NONE. */
        private final int[] next = new int[MAX_FUNCTIONS];
        private final int[] last = new int[MAX_FUNCTIONS];
        private final int[] least = new int[MAX_FUNCTIONS];
        private final long[] bytes = new long[MAX_FUNCTIONS];
        private final long[] heat = new long[MAX_FUNCTIONS];
        private final int[] looked = new int[MAX_FUNCTIONS];
        private final int[] ranked = new int[MAX_FUNCTIONS];
        private int rankedCount;

        void build(int[] sizes, CallTable table, int pageBytes) {
            standAlone(sizes, table);
            int lookedCount = orderByHeat(table);
            for (int i = 0; i < lookedCount; i++) {
                int front = first[table.callerOf(looked[i])];
                int back = first[looked[i]];
                if (front != back && bytes[front] + bytes[back] <= pageBytes) {
                    join(front, back);
                }
            }
            rank();
        }

        int clusterCount() {
            return rankedCount;
        }

        int firstOf(int f) {
            return first[f];
        }

        void writeTo(Row row, int[] sizes) {
            row.empty();
            for (int i = 0; i < rankedCount; i++) {
                int f = ranked[i];
                for (int k = 0; k < MAX_FUNCTIONS && f != NONE; k++) {
                    row.append(f, sizes[f]);
                    f = next[f];
                }
            }
        }

        private void standAlone(int[] sizes, CallTable table) {
            for (int f = 0; f < MAX_FUNCTIONS; f++) {
                first[f] = sizes[f] > 0 ? f : NONE;
                next[f] = NONE;
                last[f] = f;
                least[f] = f;
                bytes[f] = sizes[f];
                heat[f] = table.heatOf(f);
            }
        }

        /** Leaves out the functions without a caller, since looking at them changes nothing. */
        private int orderByHeat(CallTable table) {
            int count = 0;
            for (int f = 0; f < MAX_FUNCTIONS; f++) {
                if (first[f] != NONE && table.callerOf(f) != NONE) {
                    int at = count;
                    while (at > 0 && heat[f] > heat[looked[at - 1]]) {
                        looked[at] = looked[at - 1];
                        at--;
                    }
                    looked[at] = f;
                    count++;
                }
            }
            return count;
        }

        private void join(int front, int back) {
            int f = back;
            for (int k = 0; k < MAX_FUNCTIONS && f != NONE; k++) {
                first[f] = front;
                f = next[f];
            }
            next[last[front]] = back;
            last[front] = last[back];
            least[front] = Math.min(least[front], least[back]);
            bytes[front] += bytes[back];
            heat[front] += heat[back];
        }

        /** Takes the clusters by their least functions, so that equally dense ones stay so. */
        private void rank() {
            rankedCount = 0;
            for (int f = 0; f < MAX_FUNCTIONS; f++) {
                if (first[f] != NONE && least[first[f]] == f) {
                    int at = rankedCount;
                    while (at > 0 && isDenser(first[f], ranked[at - 1])) {
                        ranked[at] = ranked[at - 1];
                        at--;
                    }
                    ranked[at] = first[f];
                    rankedCount++;
                }
            }
        }

        /** Compares whole parts, then rests, since heat times size of the other could wrap. */
        private boolean isDenser(int a, int b) {
            if (bytes[a] <= 0 || bytes[b] <= 0) {
                return false;
            }
            long wholeA = heat[a] / bytes[a];
            long wholeB = heat[b] / bytes[b];
            if (wholeA != wholeB) {
                return wholeA > wholeB;
            }
            return (heat[a] % bytes[a]) * bytes[b] > (heat[b] % bytes[b]) * bytes[a];
        }
    }
}
