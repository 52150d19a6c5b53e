import java.math.BigInteger;
import java.util.ArrayList;
import java.util.Collections;
import java.util.List;
import java.util.Map;
import java.util.Random;
import java.util.TreeMap;

/** Random runs of calls, answered by the class and by a slow model made from the document's words. */
public final class ModelTest {
    private static final int RUNS = 600;
    private static final int CALLS = 512;
    private static int wrong = 0;

    public static void main(String[] args) {
        for (int run = 0; run < RUNS && wrong < 20; run++) {
            new Run(run).go();
        }
        System.out.println(wrong == 0 ? "the model agrees" : wrong + " answers differ from the model");
        if (wrong != 0) {
            System.exit(1);
        }
    }

    private static final class Run {
        private final int number;
        private final Random random;
        private final CallClusters x = new CallClusters();
        private final Model model = new Model();
        private final boolean great;
        private int bound = 1;

        Run(int number) {
            this.number = number;
            this.random = new Random(number);
            this.great = number % 3 == 0;
        }

        void go() {
            int limit = number % 7 == 0 ? 300 : number % 7 < 4 ? 6 : 30;
            functions(1 + random.nextInt(limit));
            int told = number % 2 == 0 ? CALLS / 2 : 0;
            for (int i = 1; i < CALLS; i++) {
                if (i < told || random.nextInt(3) == 0) {
                    tell(limit);
                } else {
                    ask();
                }
            }
        }

        private int f() {
            return random.nextInt(25) == 0 ? bound + random.nextInt(3) - 1 - random.nextInt(2) * bound
                : random.nextInt(bound);
        }

        private void functions(int n) {
            if (check("functions(" + n + ")", bit(x.functions(n)), bit(model.functions(n)))) {
                bound = model.sizes.length;
            }
        }

        private void tell(int limit) {
            int kind = random.nextInt(100);
            if (kind < 1) {
                functions(random.nextInt(5) == 0 ? 301 * random.nextInt(2) : 1 + random.nextInt(limit));
            } else if (kind < 4) {
                int bytes = great ? random.nextInt(110000000) : random.nextInt(60);
                check("page(" + bytes + ")", bit(x.page(bytes)), bit(model.page(bytes)));
            } else if (kind < 50) {
                int f = f();
                int bytes = great ? 1000005 - random.nextInt(random.nextBoolean() ? 10 : 1000010)
                    : random.nextInt(8);
                check("size(" + f + ", " + bytes + ")", bit(x.size(f, bytes)), bit(model.size(f, bytes)));
            } else {
                int f = f();
                int g = f();
                int count = great ? 1000000003 - random.nextInt(random.nextBoolean() ? 8 : 1000000008)
                    : random.nextInt(5);
                check("call(" + f + ", " + g + ", " + count + ")", x.call(f, g, count),
                    model.call(f, g, count));
            }
        }

        private void ask() {
            int f = f();
            switch (random.nextInt(8)) {
                case 0 -> check("heat(" + f + ")", x.heat(f), model.heat(f));
                case 1 -> check("caller(" + f + ")", x.caller(f), model.caller(f));
                case 2 -> check("length()", x.length(), model.row().size());
                case 3 -> {
                    List<Integer> row = model.row();
                    check("row(" + f + ")", x.row(f), f >= 0 && f < row.size() ? row.get(f) : -1);
                }
                case 4 -> check("begin(" + f + ")", x.begin(f), model.begin(model.row(), f));
                case 5 -> check("clusters()", x.clusters(), model.clusters().size());
                case 6 -> check("cluster(" + f + ")", x.cluster(f), model.cluster(f));
                default -> {
                    int what = random.nextInt(4) - 1;
                    check("cost(" + what + ")", x.cost(what), model.cost(what));
                }
            }
        }

        private static long bit(boolean b) {
            return b ? 1 : 0;
        }

        private boolean check(String call, long got, long want) {
            if (got != want) {
                wrong++;
                System.out.println("run " + number + ": " + call + " answered " + got + ", due is " + want);
            }
            return got == want;
        }
    }

    private static final class Model {
        private int[] sizes = new int[1];
        private int page = 4096;
        private final Map<List<Integer>, Long> calls = new java.util.HashMap<>();

        boolean functions(int n) {
            if (n < 1 || n > 300) {
                return false;
            }
            sizes = new int[n];
            calls.clear();
            return true;
        }

        boolean size(int f, int bytes) {
            if (!exists(f) || bytes < 0 || bytes > 1000000) {
                return false;
            }
            sizes[f] = bytes;
            return true;
        }

        long call(int f, int g, int count) {
            if (!exists(f) || !exists(g)) {
                return -1;
            }
            if (count < 1 || count > 1000000000) {
                return -2;
            }
            List<Integer> pair = List.of(f, g);
            if (!calls.containsKey(pair) && calls.size() == 2000) {
                return -3;
            }
            return calls.merge(pair, (long) count, (a, b) -> Math.min(a + b, 1000000000000L));
        }

        boolean page(int bytes) {
            if (bytes < 1 || bytes > 100000000) {
                return false;
            }
            page = bytes;
            return true;
        }

        private boolean exists(int f) {
            return f >= 0 && f < sizes.length;
        }

        private boolean inRow(int f) {
            return exists(f) && sizes[f] > 0;
        }

        private long callsOf(int f, int g) {
            return calls.getOrDefault(List.of(f, g), 0L);
        }

        long heat(int f) {
            if (!exists(f)) {
                return -1;
            }
            return calls.entrySet().stream().filter(e -> e.getKey().get(1) == f)
                .mapToLong(Map.Entry::getValue).sum();
        }

        int caller(int f) {
            int best = -1;
            long most = 0;
            for (int g = 0; inRow(f) && g < sizes.length; g++) {
                if (g != f && sizes[g] > 0 && callsOf(g, f) > most) {
                    best = g;
                    most = callsOf(g, f);
                }
            }
            return best;
        }

        List<List<Integer>> clusters() {
            List<List<Integer>> clusters = new ArrayList<>();
            Map<Integer, Long> heats = new TreeMap<>();
            for (int f = 0; f < sizes.length; f++) {
                if (sizes[f] > 0) {
                    clusters.add(new ArrayList<>(List.of(f)));
                    heats.put(f, heat(f));
                }
            }
            List<Integer> looked = new ArrayList<>(heats.keySet());
            looked.sort((a, b) -> heats.get(a).equals(heats.get(b)) ? a - b
                : Long.compare(heats.get(b), heats.get(a)));
            for (int f : looked) {
                int caller = caller(f);
                if (caller < 0 || holding(clusters, f) == holding(clusters, caller)) {
                    continue;
                }
                List<Integer> back = holding(clusters, f);
                List<Integer> front = holding(clusters, caller);
                if (bytes(front) + bytes(back) <= page) {
                    front.addAll(back);
                    clusters.removeIf(c -> c == back);
                }
            }
            clusters.sort((a, b) -> {
                BigInteger left = sumOfHeats(b, heats).multiply(BigInteger.valueOf(bytes(a)));
                BigInteger right = sumOfHeats(a, heats).multiply(BigInteger.valueOf(bytes(b)));
                int order = left.compareTo(right);
                return order != 0 ? order : Collections.min(a) - Collections.min(b);
            });
            return clusters;
        }

        private static BigInteger sumOfHeats(List<Integer> cluster, Map<Integer, Long> heats) {
            return BigInteger.valueOf(cluster.stream().mapToLong(heats::get).sum());
        }

        private static List<Integer> holding(List<List<Integer>> clusters, int f) {
            return clusters.stream().filter(c -> c.contains(f)).findFirst().orElse(null);
        }

        private long bytes(List<Integer> cluster) {
            return cluster.stream().mapToLong(f -> sizes[f]).sum();
        }

        int cluster(int f) {
            return inRow(f) ? holding(clusters(), f).get(0) : -1;
        }

        List<Integer> row() {
            List<Integer> row = new ArrayList<>();
            clusters().forEach(row::addAll);
            return row;
        }

        long begin(List<Integer> row, int f) {
            int at = row.indexOf(f);
            return at < 0 ? -1 : bytes(row.subList(0, at));
        }

        long cost(int what) {
            if (what != 0 && what != 1) {
                return -1;
            }
            List<Integer> row = row();
            if (what == 1) {
                Collections.sort(row);
            }
            BigInteger sum = BigInteger.ZERO;
            for (Map.Entry<List<Integer>, Long> call : calls.entrySet()) {
                int f = call.getKey().get(0);
                int g = call.getKey().get(1);
                if (f != g && inRow(f) && inRow(g)) {
                    long between = Math.abs(begin(row, f) - begin(row, g));
                    sum = sum.add(BigInteger.valueOf(call.getValue()).multiply(BigInteger.valueOf(between)));
                }
            }
            return sum.longValue();
        }
    }
}
