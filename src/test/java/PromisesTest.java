/** One method for each promise: ordinary inputs, the edges that the document names, wrong inputs. */
public final class PromisesTest {
    private static int wrong = 0;
    private static String part = "";

    public static void main(String[] args) {
        newObject();
        functions();
        sizes();
        calls();
        pages();
        heats();
        callers();
        lengths();
        rowsByHeat();
        rowsByDensity();
        begins();
        clusterCounts();
        clusterFirsts();
        costs();
        System.out.println(wrong == 0 ? "all promises hold" : wrong + " answers are not as due");
        if (wrong != 0) {
            System.exit(1);
        }
    }

    private static void due(String call, long got, long want) {
        if (got != want) {
            wrong++;
            System.out.println(part + ": " + call + " answered " + got + ", due is " + want);
        }
    }

    private static void due(String call, boolean got, boolean want) {
        due(call, got ? 1L : 0L, want ? 1L : 0L);
    }

    private static void dueRow(CallClusters x, int... want) {
        due("length()", x.length(), want.length);
        for (int k = 0; k < want.length; k++) {
            due("row(" + k + ")", x.row(k), want[k]);
        }
        due("row(-1)", x.row(-1), -1);
        due("row(" + want.length + ")", x.row(want.length), -1);
    }

    /** As many functions as sizes are given, with these. */
    private static CallClusters withSizes(int... bytes) {
        CallClusters x = new CallClusters();
        due("functions(" + bytes.length + ")", x.functions(bytes.length), true);
        for (int f = 0; f < bytes.length; f++) {
            due("size(" + f + ", " + bytes[f] + ")", x.size(f, bytes[f]), true);
        }
        return x;
    }

    private static void newObject() {
        part = "promise 1";
        CallClusters x = new CallClusters();
        dueRow(x);
        due("clusters()", x.clusters(), 0);
        due("cluster(0)", x.cluster(0), -1);
        due("begin(0)", x.begin(0), -1);
        due("heat(0)", x.heat(0), 0);
        due("heat(1)", x.heat(1), -1);
        due("caller(0)", x.caller(0), -1);
        due("cost(0)", x.cost(0), 0);
        due("cost(1)", x.cost(1), 0);
        due("size(1, 1)", x.size(1, 1), false);
        due("size(0, 1)", x.size(0, 1), true);
        dueRow(x, 0);

        CallClusters fits = withSizes(4000, 96);
        fits.call(1, 0, 1);
        due("clusters() at PAGE", fits.clusters(), 1);
        CallClusters tooGreat = withSizes(4000, 97);
        tooGreat.call(1, 0, 1);
        due("clusters() above PAGE", tooGreat.clusters(), 2);
    }

    private static void functions() {
        part = "promise 2";
        CallClusters x = withSizes(10, 20);
        due("page(30)", x.page(30), true);
        x.call(0, 1, 5);
        due("clusters()", x.clusters(), 1);
        due("functions(0)", x.functions(0), false);
        due("functions(-1)", x.functions(-1), false);
        due("functions(301)", x.functions(301), false);
        due("functions(min)", x.functions(Integer.MIN_VALUE), false);
        due("functions(max)", x.functions(Integer.MAX_VALUE), false);
        dueRow(x, 0, 1);
        due("heat(1) kept", x.heat(1), 5);

        due("functions(2)", x.functions(2), true);
        dueRow(x);
        due("heat(1) gone", x.heat(1), 0);
        x.size(0, 10);
        x.size(1, 21);
        due("caller(1) gone", x.caller(1), -1);
        due("call(0, 1, 3)", x.call(0, 1, 3), 3);
        due("PAGE stays", x.clusters(), 2);

        due("functions(300)", x.functions(300), true);
        due("size(299, 1)", x.size(299, 1), true);
        due("size(300, 1)", x.size(300, 1), false);
        due("functions(1)", x.functions(1), true);
        dueRow(x);
        due("begin(299)", x.begin(299), -1);
        due("heat(1)", x.heat(1), -1);
        due("functions(300) again", x.functions(300), true);
        dueRow(x);
    }

    private static void sizes() {
        part = "promise 3";
        CallClusters x = withSizes(7, 0, 9);
        due("size(-1, 1)", x.size(-1, 1), false);
        due("size(3, 1)", x.size(3, 1), false);
        due("size(min, 1)", x.size(Integer.MIN_VALUE, 1), false);
        due("size(max, 1)", x.size(Integer.MAX_VALUE, 1), false);
        due("size(0, -1)", x.size(0, -1), false);
        due("size(0, 1000001)", x.size(0, 1000001), false);
        due("size(0, min)", x.size(0, Integer.MIN_VALUE), false);
        dueRow(x, 0, 2);
        due("begin(2)", x.begin(2), 7);
        due("size(0, 1000000)", x.size(0, 1000000), true);
        due("begin(2)", x.begin(2), 1000000);
        due("size(1, 1)", x.size(1, 1), true);
        dueRow(x, 0, 1, 2);
        due("size(0, 0)", x.size(0, 0), true);
        dueRow(x, 1, 2);
        due("begin(2)", x.begin(2), 1);
    }

    private static void calls() {
        part = "promise 4";
        CallClusters x = withSizes(1, 1, 1);
        due("call(0, 1, 5)", x.call(0, 1, 5), 5);
        due("call(0, 1, 6)", x.call(0, 1, 6), 11);
        due("call(1, 0, 2)", x.call(1, 0, 2), 2);
        due("call(2, 2, 4)", x.call(2, 2, 4), 4);
        due("call(0, 1, 1000000000)", x.call(0, 1, 1000000000), 1000000011);
        due("call(0, 3, 1)", x.call(0, 3, 1), -1);
        due("call(3, 0, 1)", x.call(3, 0, 1), -1);
        due("call(-1, 0, 1)", x.call(-1, 0, 1), -1);
        due("call(0, -1, 1)", x.call(0, -1, 1), -1);
        due("call(min, max, 1)", x.call(Integer.MIN_VALUE, Integer.MAX_VALUE, 1), -1);
        due("call(0, 3, 0)", x.call(0, 3, 0), -1);
        due("call(0, 1, 0)", x.call(0, 1, 0), -2);
        due("call(0, 1, -1)", x.call(0, 1, -1), -2);
        due("call(0, 1, 1000000001)", x.call(0, 1, 1000000001), -2);
        due("call(0, 1, min)", x.call(0, 1, Integer.MIN_VALUE), -2);
        due("call(0, 1, 1)", x.call(0, 1, 1), 1000000012);
        due("heat(1)", x.heat(1), 1000000012);

        CallClusters sizeless = new CallClusters();
        due("call(0, 0, 1)", sizeless.call(0, 0, 1), 1);
    }

    private static void pages() {
        part = "promise 5";
        CallClusters x = withSizes(5, 6);
        x.call(0, 1, 1);
        due("page(10)", x.page(10), true);
        due("clusters()", x.clusters(), 2);
        due("page(11)", x.page(11), true);
        due("clusters()", x.clusters(), 1);
        due("page(0)", x.page(0), false);
        due("page(-1)", x.page(-1), false);
        due("page(100000001)", x.page(100000001), false);
        due("page(min)", x.page(Integer.MIN_VALUE), false);
        due("page(max)", x.page(Integer.MAX_VALUE), false);
        due("clusters()", x.clusters(), 1);
        due("page(1)", x.page(1), true);
        due("clusters()", x.clusters(), 2);
        due("page(100000000)", x.page(100000000), true);
        due("clusters()", x.clusters(), 1);
    }

    private static void heats() {
        part = "promise 6";
        CallClusters x = withSizes(0, 3, 3);
        due("heat(1)", x.heat(1), 0);
        x.call(0, 1, 4);
        x.call(1, 1, 10);
        x.call(2, 1, 100);
        x.call(2, 1, 100);
        x.call(1, 2, 1000);
        x.call(1, 0, 7);
        due("heat(0), of no size", x.heat(0), 7);
        due("heat(1)", x.heat(1), 214);
        due("heat(2)", x.heat(2), 1000);
        due("heat(3)", x.heat(3), -1);
        due("heat(-1)", x.heat(-1), -1);
        due("heat(min)", x.heat(Integer.MIN_VALUE), -1);
        due("heat(max)", x.heat(Integer.MAX_VALUE), -1);
    }

    private static void callers() {
        part = "promise 7";
        CallClusters x = withSizes(1, 1, 1, 0);
        due("caller(0), never called", x.caller(0), -1);
        x.call(0, 0, 50);
        due("caller(0), by itself alone", x.caller(0), -1);
        x.call(3, 0, 40);
        due("caller(0), by one without a size", x.caller(0), -1);
        x.call(2, 0, 3);
        due("caller(0)", x.caller(0), 2);
        x.call(1, 0, 3);
        due("caller(0), equal ones", x.caller(0), 1);
        x.call(2, 0, 1);
        due("caller(0), one more", x.caller(0), 2);
        x.size(3, 1);
        due("caller(0), with a size now", x.caller(0), 3);
        x.size(3, 0);
        x.size(2, 0);
        due("caller(0), without 2 and 3", x.caller(0), 1);
        x.call(0, 3, 5);
        due("caller(3), no size", x.caller(3), -1);
        due("caller(4)", x.caller(4), -1);
        due("caller(-1)", x.caller(-1), -1);
        due("caller(min)", x.caller(Integer.MIN_VALUE), -1);
        due("caller(max)", x.caller(Integer.MAX_VALUE), -1);
        x.page(1);
        due("caller(0), too great together", x.caller(0), 1);
    }

    private static void lengths() {
        part = "promise 8";
        CallClusters x = withSizes(0, 2, 0, 4);
        due("length()", x.length(), 2);
        x.size(0, 1);
        due("length()", x.length(), 3);
        x.size(3, 0);
        due("length()", x.length(), 2);
        int[] all = new int[300];
        java.util.Arrays.fill(all, 1);
        due("length()", withSizes(all).length(), 300);
    }

    private static void rowsByHeat() {
        part = "promise 9, by heat";
        CallClusters chain = withSizes(10, 10, 10, 10);
        chain.call(3, 2, 1);
        chain.call(2, 1, 2);
        chain.call(1, 0, 3);
        dueRow(chain, 3, 2, 1, 0);

        // Whose heat is greater is looked at first, so it takes the room that PAGE leaves.
        CallClusters room = withSizes(10, 10, 10);
        room.page(20);
        room.call(0, 1, 1);
        room.call(0, 2, 2);
        dueRow(room, 0, 2, 1);
        room.call(0, 1, 1);
        dueRow(room, 2, 0, 1);
        room.call(2, 2, 1);
        dueRow(room, 1, 0, 2);

        // A whole cluster goes behind its function's caller, not the function alone.
        CallClusters whole = withSizes(10, 10, 10, 10);
        whole.call(1, 0, 9);
        whole.call(1, 2, 8);
        whole.call(3, 1, 1);
        dueRow(whole, 3, 1, 0, 2);

        // The caller stands in the middle of its cluster: what comes goes behind the last.
        CallClusters middle = withSizes(10, 10, 10, 10);
        middle.call(0, 1, 9);
        middle.call(0, 2, 8);
        middle.call(1, 3, 7);
        dueRow(middle, 0, 1, 2, 3);

        // Each calls the other: the lesser number is looked at first, then both are in one cluster.
        CallClusters both = withSizes(10, 10);
        both.call(0, 1, 4);
        both.call(1, 0, 4);
        dueRow(both, 1, 0);
        due("row(min)", both.row(Integer.MIN_VALUE), -1);
        due("row(max)", both.row(Integer.MAX_VALUE), -1);

        // The heat of calls by a function without a size counts, though it is no caller.
        CallClusters unseen = withSizes(10, 10, 10, 0);
        unseen.page(20);
        unseen.call(0, 1, 5);
        unseen.call(0, 2, 4);
        unseen.call(3, 2, 2);
        dueRow(unseen, 1, 0, 2);
    }

    private static void rowsByDensity() {
        part = "promise 9, by density";
        CallClusters rests = withSizes(5, 4, 3, 2);
        rests.page(1);
        for (int f = 0; f < 4; f++) {
            rests.call(f, f, 1);
        }
        dueRow(rests, 3, 2, 1, 0);

        CallClusters equal = withSizes(6, 3, 4, 2);
        equal.page(1);
        equal.call(0, 0, 4);
        equal.call(1, 1, 2);
        equal.call(2, 2, 3);
        dueRow(equal, 2, 0, 1, 3);

        // [3, 0] and 1 are equally dense: 0 is the least of the first cluster, though not its first.
        CallClusters least = withSizes(2, 2, 2, 2);
        least.call(3, 0, 8);
        least.call(1, 1, 4);
        dueRow(least, 3, 0, 1, 2);

        // A cluster's density is of all its functions: [1, 2] has 10 / 20, less than 6 / 10.
        CallClusters sums = withSizes(10, 10, 10);
        sums.call(0, 0, 6);
        sums.call(1, 2, 10);
        dueRow(sums, 0, 1, 2);

        wideDensities();
    }

    /** Heat times size wraps below 0 here: 1.5 * 10^11 calls, 100 functions of 10^6 bytes. */
    private static void wideDensities() {
        int[] bytes = new int[102];
        java.util.Arrays.fill(bytes, 0, 100, 1000000);
        bytes[100] = 1000000;
        bytes[101] = 999999;
        CallClusters x = withSizes(bytes);
        x.page(100000000);
        for (int f = 1; f < 100; f++) {
            x.call(0, f, 1);
        }
        for (int i = 0; i < 150; i++) {
            x.call(100, 100, 1000000000);
        }
        x.call(101, 101, 1);
        due("clusters()", x.clusters(), 3);
        due("row(0)", x.row(0), 100);
        due("row(1), 1 / 999999 above 99 / 10^8", x.row(1), 101);
        due("row(2)", x.row(2), 0);
        due("row(101)", x.row(101), 99);
    }

    private static void begins() {
        part = "promise 10";
        CallClusters x = withSizes(3, 5, 0, 7);
        x.call(3, 0, 2);
        dueRow(x, 3, 0, 1);
        due("begin(3)", x.begin(3), 0);
        due("begin(0)", x.begin(0), 7);
        due("begin(1)", x.begin(1), 10);
        due("begin(2), no size", x.begin(2), -1);
        due("begin(4)", x.begin(4), -1);
        due("begin(-1)", x.begin(-1), -1);
        due("begin(min)", x.begin(Integer.MIN_VALUE), -1);
        due("begin(max)", x.begin(Integer.MAX_VALUE), -1);
        int[] all = new int[300];
        java.util.Arrays.fill(all, 1000000);
        due("begin(299)", withSizes(all).begin(299), 299000000);
    }

    private static void clusterCounts() {
        part = "promise 11";
        CallClusters x = withSizes(10, 10, 10, 10, 0);
        due("clusters()", x.clusters(), 4);
        x.call(0, 0, 9);
        x.call(4, 0, 9);
        due("clusters()", x.clusters(), 4);
        x.call(0, 1, 9);
        due("clusters()", x.clusters(), 3);
        x.call(2, 3, 9);
        due("clusters()", x.clusters(), 2);
        x.call(1, 2, 9);
        due("clusters()", x.clusters(), 1);
        x.page(39);
        due("clusters(), 40 is too great", x.clusters(), 2);
        x.page(40);
        due("clusters()", x.clusters(), 1);

        // One that is greater than PAGE alone still is a cluster.
        CallClusters great = withSizes(1000000);
        due("clusters()", great.clusters(), 1);
        due("cluster(0)", great.cluster(0), 0);
    }

    private static void clusterFirsts() {
        part = "promise 12";
        CallClusters x = withSizes(10, 10, 10, 10, 0);
        due("cluster(3), alone", x.cluster(3), 3);
        x.call(3, 1, 5);
        x.call(1, 0, 4);
        due("cluster(0)", x.cluster(0), 3);
        due("cluster(1)", x.cluster(1), 3);
        due("cluster(2)", x.cluster(2), 2);
        due("cluster(3)", x.cluster(3), 3);
        x.call(2, 3, 1);
        due("cluster(0), joined as a whole", x.cluster(0), 2);
        due("cluster(1), joined as a whole", x.cluster(1), 2);
        due("cluster(4), no size", x.cluster(4), -1);
        due("cluster(5)", x.cluster(5), -1);
        due("cluster(-1)", x.cluster(-1), -1);
        due("cluster(min)", x.cluster(Integer.MIN_VALUE), -1);
        due("cluster(max)", x.cluster(Integer.MAX_VALUE), -1);
    }

    private static void costs() {
        part = "promise 13";
        CallClusters x = withSizes(10, 20, 40, 0);
        x.call(2, 0, 3);
        x.call(0, 2, 1);
        x.call(1, 1, 1000);
        x.call(1, 0, 2);
        x.call(3, 0, 9);
        x.call(0, 3, 9);
        dueRow(x, 1, 2, 0);
        due("cost(0)", x.cost(0), 3 * 40 + 40 + 2 * 60);
        due("cost(1)", x.cost(1), 3 * 30 + 30 + 2 * 10);
        due("cost(2)", x.cost(2), -1);
        due("cost(-1)", x.cost(-1), -1);
        due("cost(min)", x.cost(Integer.MIN_VALUE), -1);
        due("cost(max)", x.cost(Integer.MAX_VALUE), -1);

        int[] all = new int[300];
        java.util.Arrays.fill(all, 1000000);
        CallClusters wraps = withSizes(all);
        for (int i = 0; i < 200; i++) {
            wraps.call(0, 299, 1000000000);
        }
        due("cost(1), wrapping", wraps.cost(1), 200000000000L * 299000000L);
        due("cost(0), PAGE is too small, but 299 is the densest", wraps.cost(0),
            200000000000L * 1000000L);
    }
}
