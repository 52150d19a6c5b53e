import java.util.Arrays;
import java.util.function.ToLongFunction;

/**
 * A test of its own for each sentence of the document that names a boundary case: too small, too
 * large, empty, full, equal, wrapping, refused. Each is on new objects and, where a limit does not
 * lie beyond them, within the 512 calls.
 */
public final class BoundaryTest {
    private static final int MIN = Integer.MIN_VALUE;
    private static final int MAX = Integer.MAX_VALUE;
    private static final int BILLION = 1000000000;
    private static final int MOST_FUNCTIONS = 300;
    private static final int MOST_PAIRS = 2000;
    private static final int BUSY_FUNCTIONS = 4;

    private static int wrong = 0;
    private static int tests = 0;
    private static String sentence = "";

    public static void main(String[] args) {
        newObject();
        functionsRefused();
        functionsTaken();
        functionsForget();
        sizesRefused();
        sizesTaken();
        callsRefused();
        callsTaken();
        callsFull();
        pagesRefused();
        pagesTaken();
        heats();
        callersAbsent();
        callersEqual();
        lengths();
        rowsOutside();
        rowsOfEqualHeat();
        rowsOfEqualDensity();
        rowsOfUnlikeDensity();
        begins();
        clusterCounts();
        clusterFirsts();
        costsRefused();
        costsOfNothing();
        costsWrapping();
        lastCalls();
        System.out.println(wrong == 0 ? tests + " boundary cases hold" : wrong + " answers are not as due");
        if (wrong != 0) {
            System.exit(1);
        }
    }

    private static void test(String words, Runnable test) {
        sentence = words;
        tests++;
        test.run();
    }

    private static void due(String call, long got, long want) {
        if (got != want) {
            wrong++;
            System.out.println(sentence + ": " + call + " answered " + got + ", due is " + want);
        }
    }

    private static void due(String call, boolean got, boolean want) {
        due(call, bit(got), bit(want));
    }

    private static long bit(boolean b) {
        return b ? 1 : 0;
    }

    private static void dueRow(CallClusters x, int... want) {
        due("length()", x.length(), want.length);
        for (int k = 0; k < want.length; k++) {
            due("row(" + k + ")", x.row(k), want[k]);
        }
    }

    private static CallClusters withSizes(int... bytes) {
        CallClusters x = new CallClusters();
        due("functions(" + bytes.length + ")", x.functions(bytes.length), true);
        for (int f = 0; f < bytes.length; f++) {
            due("size(" + f + ", " + bytes[f] + ")", x.size(f, bytes[f]), true);
        }
        return x;
    }

    private static CallClusters alike(int n, int bytes) {
        int[] all = new int[n];
        Arrays.fill(all, bytes);
        return withSizes(all);
    }

    /** [2] and [0, 1], which just fits; a greater PAGE would join all, a smaller one none. */
    private static CallClusters busy() {
        CallClusters x = withSizes(10, 20, 30, 0);
        x.page(30);
        x.call(0, 1, 5);
        x.call(1, 2, 4);
        x.call(3, 2, 2);
        x.call(2, 2, 1);
        x.call(1, 0, 1);
        return x;
    }

    private static String allAnswers(CallClusters x) {
        StringBuilder text = new StringBuilder();
        for (int f = -1; f <= BUSY_FUNCTIONS; f++) {
            text.append(x.heat(f)).append(' ').append(x.caller(f)).append(' ').append(x.row(f));
            text.append(' ').append(x.begin(f)).append(' ').append(x.cluster(f)).append("; ");
        }
        text.append(x.length()).append(' ').append(x.clusters()).append(' ');
        return text.append(x.cost(0)).append(' ').append(x.cost(1)).toString();
    }

    private static void refused(String call, long want, ToLongFunction<CallClusters> made) {
        test(call + " is refused", () -> {
            CallClusters x = busy();
            String before = allAnswers(x);
            due(call, made.applyAsLong(x), want);
            String after = allAnswers(x);
            if (!before.equals(after)) {
                wrong++;
                System.out.println(call + " changed " + before + " to " + after);
            }
        });
    }

    private static void newObject() {
        test("1: one function", () -> {
            CallClusters x = new CallClusters();
            due("heat(0)", x.heat(0), 0);
            due("heat(1)", x.heat(1), -1);
            due("size(1, 1)", x.size(1, 1), false);
            due("call(0, 1, 1)", x.call(0, 1, 1), -1);
            due("call(1, 0, 1)", x.call(1, 0, 1), -1);
            due("call(0, 0, 1)", x.call(0, 0, 1), 1);
            due("size(0, 1)", x.size(0, 1), true);
        });
        test("1: without a size, so that the row is empty", () -> dueEmpty(new CallClusters(), 1));
        test("1: PAGE 4096, reached", () -> due("clusters()", callOf(4095, 1).clusters(), 1));
        test("1: PAGE 4096, passed", () -> due("clusters()", callOf(4096, 1).clusters(), 2));
        test("1: a new object knows nothing of another", () -> {
            busy();
            dueEmpty(new CallClusters(), 1);
            due("size(1, 1)", new CallClusters().size(1, 1), false);
            due("clusters()", callOf(4095, 1).clusters(), 1);
        });
    }

    /** Two functions of these sizes, of which the first calls the second once. */
    private static CallClusters callOf(int bytes, int bytesCalled) {
        CallClusters x = withSizes(bytes, bytesCalled);
        due("call(0, 1, 1)", x.call(0, 1, 1), 1);
        return x;
    }

    private static void dueEmpty(CallClusters x, int n) {
        dueRow(x);
        due("row(0)", x.row(0), -1);
        due("clusters()", x.clusters(), 0);
        due("cost(0)", x.cost(0), 0);
        due("cost(1)", x.cost(1), 0);
        for (int f = 0; f < n; f++) {
            due("heat(" + f + ")", x.heat(f), 0);
            due("caller(" + f + ")", x.caller(f), -1);
            due("begin(" + f + ")", x.begin(f), -1);
            due("cluster(" + f + ")", x.cluster(f), -1);
        }
    }

    private static void functionsRefused() {
        refused("2: functions(0)", 0, x -> bit(x.functions(0)));
        refused("2: functions(-1)", 0, x -> bit(x.functions(-1)));
        refused("2: functions(-300)", 0, x -> bit(x.functions(-300)));
        refused("2: functions(min)", 0, x -> bit(x.functions(MIN)));
        refused("2: functions(301)", 0, x -> bit(x.functions(301)));
        refused("2: functions(max)", 0, x -> bit(x.functions(MAX)));
        test("2: refused, and as many functions as before", () -> {
            CallClusters x = withSizes(1, 1);
            due("functions(301)", x.functions(301), false);
            due("functions(0)", x.functions(0), false);
            due("size(1, 2)", x.size(1, 2), true);
            due("size(2, 1)", x.size(2, 1), false);
        });
    }

    private static void functionsTaken() {
        test("2: n is 1, the least", () -> {
            CallClusters x = busy();
            due("functions(1)", x.functions(1), true);
            dueEmpty(x, 1);
            due("heat(1)", x.heat(1), -1);
            due("size(0, 1)", x.size(0, 1), true);
            due("size(1, 1)", x.size(1, 1), false);
        });
        test("2: n is 300, the greatest", () -> {
            CallClusters x = busy();
            due("functions(300)", x.functions(MOST_FUNCTIONS), true);
            due("heat(299)", x.heat(299), 0);
            due("heat(300)", x.heat(300), -1);
            due("size(299, 1)", x.size(299, 1), true);
            due("size(300, 1)", x.size(300, 1), false);
            due("call(299, 299, 1)", x.call(299, 299, 1), 1);
            due("call(299, 300, 1)", x.call(299, 300, 1), -1);
            due("call(300, 299, 1)", x.call(300, 299, 1), -1);
            dueRow(x, 299);
        });
    }

    private static void functionsForget() {
        test("2: without sizes and calls, of as many functions as before", () -> {
            CallClusters x = busy();
            due("functions(4)", x.functions(BUSY_FUNCTIONS), true);
            dueEmpty(x, BUSY_FUNCTIONS);
            due("call(0, 1, 1)", x.call(0, 1, 1), 1);
        });
        test("2: without sizes and calls, though all was asked just before", () -> {
            CallClusters x = busy();
            allAnswers(x);
            due("functions(4)", x.functions(BUSY_FUNCTIONS), true);
            dueEmpty(x, BUSY_FUNCTIONS);
        });
        test("2: without sizes, those told while there were more functions too", () -> {
            CallClusters x = busy();
            due("functions(1)", x.functions(1), true);
            due("functions(4)", x.functions(BUSY_FUNCTIONS), true);
            dueEmpty(x, BUSY_FUNCTIONS);
        });
        test("2: without calls, though sizes are told again", () -> {
            CallClusters x = busy();
            due("functions(2)", x.functions(2), true);
            x.size(0, 1);
            x.size(1, 1);
            due("caller(1)", x.caller(1), -1);
            due("clusters()", x.clusters(), 2);
            due("cost(1)", x.cost(1), 0);
        });
        test("2: PAGE stays", () -> {
            CallClusters x = busy();
            due("functions(2)", x.functions(2), true);
            x.size(0, 10);
            x.size(1, 20);
            x.call(0, 1, 1);
            due("clusters() of 30 bytes", x.clusters(), 1);
            x.size(1, 21);
            due("clusters() of 31 bytes", x.clusters(), 2);
        });
    }

    private static void sizesRefused() {
        refused("3: size(-1, 1), no such function", 0, x -> bit(x.size(-1, 1)));
        refused("3: size(4, 1), no such function", 0, x -> bit(x.size(BUSY_FUNCTIONS, 1)));
        refused("3: size(299, 1), no such function", 0, x -> bit(x.size(299, 1)));
        refused("3: size(min, 1), no such function", 0, x -> bit(x.size(MIN, 1)));
        refused("3: size(max, 1), no such function", 0, x -> bit(x.size(MAX, 1)));
        refused("3: size(0, -1), no such size", 0, x -> bit(x.size(0, -1)));
        refused("3: size(3, -1), no such size", 0, x -> bit(x.size(3, -1)));
        refused("3: size(0, min), no such size", 0, x -> bit(x.size(0, MIN)));
        refused("3: size(0, 1000001), no such size", 0, x -> bit(x.size(0, 1000001)));
        refused("3: size(0, max), no such size", 0, x -> bit(x.size(0, MAX)));
        refused("3: size(4, -1), neither", 0, x -> bit(x.size(BUSY_FUNCTIONS, -1)));
    }

    private static void sizesTaken() {
        test("3: 0 at once, the least size, is none of the row", () -> {
            CallClusters x = new CallClusters();
            due("size(0, 0)", x.size(0, 0), true);
            dueEmpty(x, 1);
        });
        test("3: 1, the least size that is in the row", () -> {
            CallClusters x = withSizes(1, 1);
            dueRow(x, 0, 1);
            due("begin(1)", x.begin(1), 1);
        });
        test("3: 1000000, the greatest size", () -> {
            CallClusters x = withSizes(1000000, 1);
            dueRow(x, 0, 1);
            due("begin(1)", x.begin(1), 1000000);
        });
        test("3: a size is told anew, not added", () -> {
            CallClusters x = withSizes(1000000, 1);
            due("size(0, 999999)", x.size(0, 999999), true);
            due("begin(1)", x.begin(1), 999999);
        });
        test("3: one whose size is 0 again leaves the row, and the calls stay", () -> {
            CallClusters x = busy();
            due("size(1, 0)", x.size(1, 0), true);
            dueRow(x, 2, 0);
            due("heat(1)", x.heat(1), 5);
            due("heat(2)", x.heat(2), 7);
            due("caller(1)", x.caller(1), -1);
            due("caller(2)", x.caller(2), -1);
            due("size(1, 20)", x.size(1, 20), true);
            dueRow(x, 2, 0, 1);
            due("caller(1)", x.caller(1), 0);
            due("caller(2)", x.caller(2), 1);
        });
    }

    private static void callsRefused() {
        refused("4: call(-1, 0, 1), no such functions", -1, x -> x.call(-1, 0, 1));
        refused("4: call(0, -1, 1), no such functions", -1, x -> x.call(0, -1, 1));
        refused("4: call(4, 0, 1), no such functions", -1, x -> x.call(BUSY_FUNCTIONS, 0, 1));
        refused("4: call(0, 4, 1), no such functions", -1, x -> x.call(0, BUSY_FUNCTIONS, 1));
        refused("4: call(4, 4, 1), no such functions", -1, x -> x.call(4, 4, 1));
        refused("4: call(min, 0, 1), no such functions", -1, x -> x.call(MIN, 0, 1));
        refused("4: call(0, min, 1), no such functions", -1, x -> x.call(0, MIN, 1));
        refused("4: call(max, 0, 1), no such functions", -1, x -> x.call(MAX, 0, 1));
        refused("4: call(0, max, 1), no such functions", -1, x -> x.call(0, MAX, 1));
        refused("4: call(0, 1, 0), no such count", -2, x -> x.call(0, 1, 0));
        refused("4: call(2, 0, 0), no such count of a new pair", -2, x -> x.call(2, 0, 0));
        refused("4: call(0, 1, -1), no such count", -2, x -> x.call(0, 1, -1));
        refused("4: call(0, 1, min), no such count", -2, x -> x.call(0, 1, MIN));
        refused("4: call(0, 1, 10^9 + 1), no such count", -2, x -> x.call(0, 1, BILLION + 1));
        refused("4: call(2, 0, 10^9 + 1), no such count of a new pair", -2,
            x -> x.call(2, 0, BILLION + 1));
        refused("4: call(0, 1, max), no such count", -2, x -> x.call(0, 1, MAX));
        refused("4: call(4, 0, 0), no such functions before no such count", -1,
            x -> x.call(BUSY_FUNCTIONS, 0, 0));
        refused("4: call(0, -1, max), no such functions before no such count", -1,
            x -> x.call(0, -1, MAX));
    }

    private static void callsTaken() {
        test("4: 1, the least count", () -> {
            CallClusters x = new CallClusters();
            due("call(0, 0, 1)", x.call(0, 0, 1), 1);
            due("call(0, 0, 1)", x.call(0, 0, 1), 2);
        });
        test("4: 10^9, the greatest count, and sums above the greatest int", () -> {
            CallClusters x = new CallClusters();
            for (int i = 1; i <= 5; i++) {
                due("call " + i, x.call(0, 0, BILLION), (long) i * BILLION);
            }
            due("heat(0)", x.heat(0), 5L * BILLION);
        });
        test("4: f calls g is another pair than g calls f, and than each itself", () -> {
            CallClusters x = withSizes(0, 0);
            due("call(0, 1, 3)", x.call(0, 1, 3), 3);
            due("call(1, 0, 4)", x.call(1, 0, 4), 4);
            due("call(0, 0, 5)", x.call(0, 0, 5), 5);
            due("call(1, 1, 6)", x.call(1, 1, 6), 6);
            due("call(0, 1, 1)", x.call(0, 1, 1), 4);
        });
        test("4: a count is at most 10^12, more is 10^12", () -> {
            CallClusters x = withSizes(1, 1, 1);
            for (int i = 1; i < 1000; i++) {
                due("call " + i, x.call(0, 1, BILLION), (long) i * BILLION);
            }
            due("below 10^12", x.call(0, 1, BILLION - 1), 1000L * BILLION - 1);
            due("10^12", x.call(0, 1, 1), 1000L * BILLION);
            due("above 10^12 by 1", x.call(0, 1, 1), 1000L * BILLION);
            due("above 10^12 by 10^9", x.call(0, 1, BILLION), 1000L * BILLION);
            due("heat(1)", x.heat(1), 1000L * BILLION);
            due("another pair", x.call(2, 1, 1), 1);
            due("heat(1) of two pairs", x.heat(1), 1000L * BILLION + 1);
        });
    }

    /** 45 functions and 2000 of their 2025 pairs; that of 44 with 44 is not among them. */
    private static CallClusters full(int pairs) {
        CallClusters x = alike(45, 0);
        for (int i = 0; i < pairs; i++) {
            due("call of pair " + i, x.call(i / 45, i % 45, 1), 1);
        }
        return x;
    }

    private static void callsFull() {
        test("4: -3 there are 2000 pairs and this is none of them", () -> {
            CallClusters x = full(MOST_PAIRS);
            due("call(44, 44, 1)", x.call(44, 44, 1), -3);
            due("call(44, 44, 1) again", x.call(44, 44, 1), -3);
            due("heat(44)", x.heat(44), 44);
        });
        test("4: one of the 2000 pairs is taken", () -> {
            CallClusters x = full(MOST_PAIRS);
            due("the first", x.call(0, 0, 1), 2);
            due("the last", x.call(44, 19, 1), 2);
        });
        test("4: the 2000th pair is taken, the next is not", () -> {
            CallClusters x = full(MOST_PAIRS - 1);
            due("call(44, 44, 1)", x.call(44, 44, 1), 1);
            due("call(44, 43, 1)", x.call(44, 43, 1), -3);
        });
        test("4: a refused pair takes no place", () -> {
            CallClusters x = full(MOST_PAIRS - 1);
            due("call(44, 43, 0)", x.call(44, 43, 0), -2);
            due("call(44, 45, 1)", x.call(44, 45, 1), -1);
            due("call(44, 44, 1)", x.call(44, 44, 1), 1);
        });
        test("4: -1 and -2 come before -3", () -> {
            CallClusters x = full(MOST_PAIRS);
            due("call(44, 45, 1)", x.call(44, 45, 1), -1);
            due("call(44, 44, 0)", x.call(44, 44, 0), -2);
        });
        test("2: without calls, so that there is room for pairs again", () -> {
            CallClusters x = full(MOST_PAIRS);
            due("functions(300)", x.functions(MOST_FUNCTIONS), true);
            due("call(299, 299, 1)", x.call(299, 299, 1), 1);
        });
    }

    private static void pagesRefused() {
        refused("5: page(0)", 0, x -> bit(x.page(0)));
        refused("5: page(-1)", 0, x -> bit(x.page(-1)));
        refused("5: page(min)", 0, x -> bit(x.page(MIN)));
        refused("5: page(100000001)", 0, x -> bit(x.page(100000001)));
        refused("5: page(max)", 0, x -> bit(x.page(MAX)));
    }

    private static void pagesTaken() {
        test("5: 1, the least PAGE, is too small for any two", () -> {
            CallClusters x = callOf(1, 1);
            due("page(1)", x.page(1), true);
            due("clusters()", x.clusters(), 2);
            due("page(2)", x.page(2), true);
            due("clusters()", x.clusters(), 1);
        });
        test("5: 100000000, the greatest PAGE, reached and passed", () -> {
            CallClusters x = alike(102, 1000000);
            due("page(100000000)", x.page(100000000), true);
            for (int f = 1; f < 102; f++) {
                due("call(0, f, 1)", x.call(0, f, 1), 1);
            }
            due("clusters()", x.clusters(), 3);
            due("cluster(99)", x.cluster(99), 0);
            due("cluster(100)", x.cluster(100), 100);
            due("size(0, 999999)", x.size(0, 999999), true);
            due("size(100, 1)", x.size(100, 1), true);
            due("cluster(100), to 100000000", x.cluster(100), 0);
            due("size(100, 2)", x.size(100, 2), true);
            due("cluster(100), to 100000001", x.cluster(100), 100);
        });
        test("5: together not above PAGE: equal, and one above", () -> {
            CallClusters x = busy();
            due("page(29)", x.page(29), true);
            due("clusters()", x.clusters(), 3);
            due("page(30)", x.page(30), true);
            due("clusters()", x.clusters(), 2);
            due("page(59)", x.page(59), true);
            due("clusters()", x.clusters(), 2);
            due("page(60)", x.page(60), true);
            due("clusters()", x.clusters(), 1);
        });
        test("5: PAGE counts whole clusters, not the functions", () -> {
            CallClusters x = withSizes(10, 10, 10);
            x.page(29);
            x.call(0, 1, 2);
            x.call(1, 2, 1);
            dueRow(x, 0, 1, 2);
            due("cluster(2)", x.cluster(2), 2);
            x.page(30);
            due("cluster(2)", x.cluster(2), 0);
        });
    }

    private static void heats() {
        for (int f : new int[] {-1, BUSY_FUNCTIONS, 299, 300, MIN, MAX}) {
            test("6: heat(" + f + "), there is none", () -> due("heat", busy().heat(f), -1));
        }
        test("6: never called", () -> due("heat(0)", withSizes(1).heat(0), 0));
        test("6: all calls of it, those by itself too", () -> {
            CallClusters x = withSizes(1);
            x.call(0, 0, 7);
            due("heat(0)", x.heat(0), 7);
        });
        test("6: all calls of it, those by functions without a size too", () -> {
            CallClusters x = withSizes(0, 1);
            x.call(0, 1, 7);
            due("heat(1)", x.heat(1), 7);
        });
        test("6: of a function without a size", () -> {
            CallClusters x = withSizes(0, 1);
            x.call(1, 0, 7);
            due("heat(0)", x.heat(0), 7);
            due("heat(1), which only calls", x.heat(1), 0);
        });
        test("6: by all 300 functions", () -> {
            CallClusters x = new CallClusters();
            x.functions(MOST_FUNCTIONS);
            for (int f = 0; f < MOST_FUNCTIONS; f++) {
                x.call(f, 299, BILLION);
            }
            due("heat(299)", x.heat(299), 300L * BILLION);
        });
    }

    private static void callersAbsent() {
        for (int f : new int[] {-1, BUSY_FUNCTIONS, 299, 300, MIN, MAX}) {
            test("7: caller(" + f + "), it is none", () -> due("caller", busy().caller(f), -1));
        }
        test("7: no calls of it", () -> due("caller(0)", callOf(1, 1).caller(0), -1));
        test("7: it has no size", () -> due("caller(1)", callOf(1, 0).caller(1), -1));
        test("7: with a size above 0, the caller has none", () -> {
            CallClusters x = callOf(0, 1);
            due("caller(1)", x.caller(1), -1);
            due("size(0, 1)", x.size(0, 1), true);
            due("caller(1)", x.caller(1), 0);
        });
        test("7: other than f, though f calls itself most", () -> {
            CallClusters x = withSizes(1, 1);
            x.call(0, 0, BILLION);
            due("caller(0)", x.caller(0), -1);
            x.call(1, 0, 1);
            due("caller(0)", x.caller(0), 1);
        });
        test("7: a caller with which it does not fit", () -> {
            CallClusters x = callOf(4096, 1);
            due("clusters()", x.clusters(), 2);
            due("caller(1)", x.caller(1), 0);
        });
        test("7: each the other's caller", () -> {
            CallClusters x = callOf(1, 1);
            x.call(1, 0, 1);
            due("caller(0)", x.caller(0), 1);
            due("caller(1)", x.caller(1), 0);
        });
    }

    private static void callersEqual() {
        test("7: of equal ones the least, told first", () -> {
            CallClusters x = withSizes(1, 1, 1);
            x.call(0, 2, 5);
            x.call(1, 2, 5);
            due("caller(2)", x.caller(2), 0);
        });
        test("7: of equal ones the least, told last", () -> {
            CallClusters x = withSizes(1, 1, 1);
            x.call(1, 2, 5);
            x.call(0, 2, 5);
            due("caller(2)", x.caller(2), 0);
        });
        test("7: one call more than the least", () -> {
            CallClusters x = withSizes(1, 1, 1);
            x.call(0, 2, 5);
            x.call(1, 2, 6);
            due("caller(2)", x.caller(2), 1);
            x.call(0, 2, 1);
            due("caller(2), equal again", x.caller(2), 0);
        });
        test("7: of equal ones the least that has a size", () -> {
            CallClusters x = withSizes(0, 1, 1, 1);
            x.call(0, 3, 5);
            x.call(2, 3, 5);
            x.call(1, 3, 5);
            due("caller(3)", x.caller(3), 1);
        });
        test("7: the last of 300 as caller and as called", () -> {
            CallClusters x = new CallClusters();
            x.functions(MOST_FUNCTIONS);
            x.size(0, 1);
            x.size(299, 1);
            x.call(299, 0, 1);
            due("caller(0)", x.caller(0), 299);
            x.call(0, 299, 1);
            due("caller(299)", x.caller(299), 0);
        });
    }

    private static void lengths() {
        test("8: no function has a size", () -> due("length()", alike(300, 0).length(), 0));
        test("8: one has", () -> due("length()", withSizes(0, 1, 0).length(), 1));
        test("8: all 300 have", () -> due("length()", alike(300, 1).length(), 300));
        test("8: all 300 had, and one has none again", () -> {
            CallClusters x = alike(300, 1);
            due("size(299, 0)", x.size(299, 0), true);
            due("length()", x.length(), 299);
        });
    }

    private static void rowsOutside() {
        for (int k : new int[] {-1, 3, 4, 299, 300, MIN, MAX}) {
            test("9: row(" + k + "), there is none", () -> due("row", busy().row(k), -1));
        }
        test("9: the row is empty", () -> {
            CallClusters x = withSizes(0, 0);
            due("row(0)", x.row(0), -1);
            due("row(-1)", x.row(-1), -1);
        });
        test("9: the row is full", () -> {
            CallClusters x = alike(300, 1);
            due("row(0)", x.row(0), 0);
            due("row(299)", x.row(299), 299);
            due("row(300)", x.row(300), -1);
        });
        test("9: the row has become shorter", () -> {
            CallClusters x = withSizes(1, 1);
            due("row(1)", x.row(1), 1);
            x.size(0, 0);
            due("row(0)", x.row(0), 1);
            due("row(1)", x.row(1), -1);
        });
    }

    private static void rowsOfEqualHeat() {
        test("9: of equal heat the lesser number is looked at first, and takes the room", () -> {
            CallClusters x = withSizes(1, 1, 1);
            x.page(2);
            x.call(2, 1, 3);
            x.call(2, 0, 3);
            due("cluster(0)", x.cluster(0), 2);
            due("cluster(1)", x.cluster(1), 1);
        });
        test("9: one more heat than the lesser number", () -> {
            CallClusters x = withSizes(1, 1, 1);
            x.page(2);
            x.call(2, 0, 3);
            x.call(2, 1, 4);
            due("cluster(0)", x.cluster(0), 0);
            due("cluster(1)", x.cluster(1), 2);
        });
        test("9: a ring of calls, each of equal heat", () -> {
            CallClusters x = withSizes(1, 1, 1);
            x.call(0, 1, 3);
            x.call(1, 2, 3);
            x.call(2, 0, 3);
            dueRow(x, 2, 0, 1);
            due("clusters()", x.clusters(), 1);
        });
        test("9: in another cluster: the caller is in the same already", () -> {
            CallClusters x = withSizes(1, 1);
            x.call(0, 1, 3);
            x.call(1, 0, 4);
            dueRow(x, 1, 0);
            due("clusters()", x.clusters(), 1);
        });
    }

    private static void rowsOfEqualDensity() {
        test("9: no heat at all: by the least function", () -> {
            CallClusters x = withSizes(9, 1, 5);
            dueRow(x, 0, 1, 2);
        });
        test("9: equal heat / size of unlike sizes", () -> {
            CallClusters x = withSizes(3, 999999, 1);
            x.call(0, 0, 6);
            x.call(1, 1, 1999998);
            x.call(2, 2, 2);
            dueRow(x, 0, 1, 2);
        });
        test("9: equal heat / size that is no whole number", () -> {
            CallClusters x = withSizes(3, 6, 999999);
            x.call(0, 0, 7);
            x.call(1, 1, 14);
            x.call(2, 2, 2333331);
            dueRow(x, 0, 1, 2);
        });
        test("9: of equal ones that with the least function, which is not its first", () -> {
            CallClusters x = withSizes(2, 1, 2);
            x.call(2, 0, 4);
            x.call(1, 1, 1);
            dueRow(x, 2, 0, 1);
        });
        test("9: of equal ones that with the least function, which came with a whole cluster", () -> {
            CallClusters x = withSizes(1, 1, 1, 1);
            x.call(2, 0, 4);
            x.call(3, 2, 2);
            x.call(1, 1, 2);
            dueRow(x, 3, 2, 0, 1);
        });
    }

    private static void rowsOfUnlikeDensity() {
        test("9: heat / size is not rounded to a whole number", () -> {
            CallClusters x = withSizes(4, 3, 2);
            for (int f = 0; f < 3; f++) {
                x.call(f, f, 1);
            }
            dueRow(x, 2, 1, 0);
        });
        test("9: heat / size unlike by less than a double shows", () -> {
            // 199999799999 / 999999 is less than 199999999999 / 1000000 by 1 / 999999000000.
            CallClusters x = withSizes(999999, 1000000);
            for (int i = 0; i < 199; i++) {
                x.call(0, 0, BILLION);
                x.call(1, 1, BILLION);
            }
            x.call(0, 0, 999799999);
            x.call(1, 1, 999999999);
            due("heat(0)", x.heat(0), 199999799999L);
            due("heat(1)", x.heat(1), 199999999999L);
            dueRow(x, 1, 0);
        });
        test("9: heat times size of the other is above the greatest long", () -> {
            // [0 .. 99] has 10^8 bytes, 100 has 1.5 * 10^11 calls: the product is 1.5 * 10^19.
            CallClusters x = alike(101, 1000000);
            x.page(100000000);
            for (int f = 1; f < 100; f++) {
                x.call(0, f, 1);
            }
            for (int i = 0; i < 150; i++) {
                x.call(100, 100, BILLION);
            }
            due("clusters()", x.clusters(), 2);
            due("row(0)", x.row(0), 100);
            due("row(1)", x.row(1), 0);
        });
    }

    private static void begins() {
        for (int f : new int[] {-1, BUSY_FUNCTIONS, 299, 300, MIN, MAX}) {
            test("10: begin(" + f + "), there is none", () -> due("begin", busy().begin(f), -1));
        }
        test("10: not in the row", () -> due("begin(3)", busy().begin(3), -1));
        test("10: the first of the row", () -> due("begin(2)", busy().begin(2), 0));
        test("10: the last of the row", () -> due("begin(1)", busy().begin(1), 40));
        test("10: no more in the row", () -> {
            CallClusters x = busy();
            due("begin(2)", x.begin(2), 0);
            x.size(2, 0);
            due("begin(2)", x.begin(2), -1);
            due("begin(0)", x.begin(0), 0);
        });
        test("10: the last of the greatest row", () -> {
            CallClusters x = alike(300, 1000000);
            due("begin(299)", x.begin(299), 299000000);
        });
    }

    private static void clusterCounts() {
        test("11: the row is empty", () -> due("clusters()", alike(300, 0).clusters(), 0));
        test("11: 300 clusters of one", () -> due("clusters()", alike(300, 1).clusters(), 300));
        test("11: one whose size alone is above PAGE", () -> {
            CallClusters x = withSizes(1000000);
            x.page(1);
            due("clusters()", x.clusters(), 1);
        });
        test("11: one whose size alone is above PAGE is not joined", () -> {
            CallClusters x = callOf(1, 1000000);
            due("clusters()", x.clusters(), 2);
        });
        test("11: a function that calls itself alone stays alone", () -> {
            CallClusters x = withSizes(1, 1);
            x.call(0, 0, 5);
            x.call(1, 1, 5);
            due("clusters()", x.clusters(), 2);
        });
        test("11: not joined by a function without a size", () -> {
            CallClusters x = withSizes(1, 1, 0);
            x.call(2, 0, 5);
            x.call(2, 1, 5);
            x.call(0, 2, 5);
            due("clusters()", x.clusters(), 2);
        });
    }

    private static void clusterFirsts() {
        for (int f : new int[] {-1, BUSY_FUNCTIONS, 299, 300, MIN, MAX}) {
            test("12: cluster(" + f + "), there is none", () -> due("cluster", busy().cluster(f), -1));
        }
        test("12: not in the row", () -> due("cluster(3)", busy().cluster(3), -1));
        test("12: no more in the row", () -> {
            CallClusters x = busy();
            due("cluster(1)", x.cluster(1), 0);
            x.size(1, 0);
            due("cluster(1)", x.cluster(1), -1);
        });
        test("12: a cluster of one", () -> due("cluster(2)", busy().cluster(2), 2));
        test("12: the first itself", () -> due("cluster(0)", busy().cluster(0), 0));
        test("12: the first is not the least", () -> {
            CallClusters x = withSizes(1, 1);
            x.call(1, 0, 1);
            due("cluster(0)", x.cluster(0), 1);
            due("cluster(1)", x.cluster(1), 1);
        });
        test("12: the first has left the row, and the rest are clusters of their own", () -> {
            CallClusters x = busy();
            x.size(0, 0);
            due("cluster(0)", x.cluster(0), -1);
            due("cluster(1)", x.cluster(1), 1);
        });
    }

    private static void costsRefused() {
        for (int what : new int[] {-1, 2, 3, MIN, MAX}) {
            refused("13: cost(" + what + "), another number", -1, x -> x.cost(what));
        }
        test("13: another number, of an empty row", () -> {
            due("cost(2)", new CallClusters().cost(2), -1);
            due("cost(-1)", new CallClusters().cost(-1), -1);
        });
    }

    private static void costsOfNothing() {
        test("13: of an empty row, though there are calls", () -> dueCosts(callOf(0, 0), 0, 0));
        test("13: one of both is not in the row", () -> {
            dueCosts(callOf(0, 5), 0, 0);
            dueCosts(callOf(5, 0), 0, 0);
        });
        test("13: one of both is no more in the row", () -> {
            CallClusters x = callOf(3, 4);
            dueCosts(x, 3, 3);
            x.size(1, 0);
            dueCosts(x, 0, 0);
        });
        test("13: unlike functions, so none of calls by itself", () -> {
            CallClusters x = withSizes(3, 4);
            x.call(1, 1, 9);
            dueCosts(x, 0, 0);
        });
        test("13: no calls", () -> dueCosts(withSizes(3, 4), 0, 0));
        test("13: calls in both directions, each once", () -> {
            CallClusters x = withSizes(3, 4);
            x.call(0, 1, 2);
            x.call(1, 0, 3);
            dueCosts(x, 5 * 4, 5 * 3);
        });
        test("13: the bytes between beginnings, functions without a size left out", () -> {
            CallClusters x = withSizes(7, 0, 5, 1);
            x.page(1);
            x.call(0, 3, 1);
            dueCosts(x, 1, 12);
        });
    }

    private static void dueCosts(CallClusters x, long ofRow, long byNumber) {
        due("cost(0)", x.cost(0), ofRow);
        due("cost(1)", x.cost(1), byNumber);
    }

    private static void costsWrapping() {
        test("13: above the greatest int", () -> {
            CallClusters x = withSizes(1000000, 1);
            x.page(100000000);
            x.call(0, 1, BILLION);
            dueCosts(x, 1000000L * BILLION, 1000000L * BILLION);
        });
        test("13: wrapping below 0, by number", () -> {
            // 30847 * 10^6 calls over 299 * 10^6 bytes are just above the greatest long.
            CallClusters x = alike(300, 1000000);
            x.page(1);
            for (int i = 0; i < 30; i++) {
                x.call(0, 299, BILLION);
            }
            x.call(0, 299, 847000000);
            due("cost(1), not wrapping", x.cost(1), 30847000000L * 299000000L);
            x.call(0, 299, 1000000);
            due("cost(1), wrapping", x.cost(1), -9223192073709551616L);
            due("cost(0), 299 first", x.cost(0), 30848000000L * 1000000L);
        });
        test("13: wrapping below 0, of the row", () -> {
            // 1 is the densest, 2 .. 101 are equal and 0 has no heat: the row is 1 .. 101, 0.
            CallClusters x = alike(102, 1000000);
            x.page(1);
            for (int i = 0; i < 93; i++) {
                x.call(101, 1, BILLION);
            }
            long callsByZero = 0;
            for (int f = 2; f < 102; f++) {
                x.call(0, f, 1);
                callsByZero += (102 - f) * 1000000L;
            }
            due("begin(1)", x.begin(1), 0);
            due("begin(101)", x.begin(101), 100000000);
            due("begin(0)", x.begin(0), 101000000);
            due("cost(0)", x.cost(0), 93L * BILLION * 100000000L + callsByZero);
        });
        test("13: wrapping more than once", () -> {
            CallClusters x = alike(300, 1000000);
            x.page(1);
            for (int i = 0; i < 200; i++) {
                x.call(0, 299, BILLION);
            }
            due("cost(1)", x.cost(1), 200L * BILLION * 299000000L);
        });
    }

    /** The 512th call is the last that is promised; the row is as long as there was time for. */
    private static void lastCalls() {
        test("an object is used for at most 512 calls", () -> {
            CallClusters x = alike(250, 2);
            for (int f = 1; f < 250; f++) {
                due("call", x.call(f - 1, f, 1), 1);
            }
            int calls = 1 + 250 + 249;
            for (int k = 0; calls < 511; k++) {
                due("row(" + k + ")", x.row(k), k);
                calls++;
            }
            due("cost(0), the 512th call", x.cost(0), 2 * 249);
        });
        test("no call throws after the 512th either", () -> {
            CallClusters x = busy();
            for (int i = 0; i < 100000; i++) {
                x.call(i % 6 - 1, i % 5 - 1, i % 3);
                x.size(i % 7 - 1, i % 11 - 1);
                x.row(i % 9 - 2);
                x.cost(i % 4 - 1);
            }
        });
    }
}
