/**
 * All NETWORKS of 1 .. 6 POINTS against what is known of them, so that COUNTED, POWER, ELEMENTARY,
 * COLOURINGS and SINKS, which are reckoned each in its own way, must agree.
 */
public final class TheoremsTest {
    private static int wrong = 0;
    private static String network = "";

    public static void main(String[] args) {
        for (int n = 1; n <= 6; n++) {
            for (int lines = 0; lines < 1 << n * (n - 1) / 2 && wrong < 20; lines++) {
                allOf(n, lines);
            }
        }
        System.out.println(wrong == 0 ? "all answers are as due" : wrong + " answers are not as due");
        if (wrong != 0) {
            System.exit(1);
        }
    }

    private static void due(String what, long got, long want) {
        if (got != want) {
            wrong++;
            System.out.println(network + ": " + what + " is " + got + ", due is " + want);
        }
    }

    private static void allOf(int n, int lines) {
        network = n + " points, lines " + Integer.toBinaryString(lines);
        ColorFunctions x = new ColorFunctions();
        x.points(n);
        int at = 0;
        int a = -1;
        int b = -1;
        for (int i = 0; i < n; i++) {
            for (int j = i + 1; j < n; j++) {
                if ((lines >> at & 1) == 1) {
                    x.line(i, j, 1);
                    a = i;
                    b = j;
                }
                at++;
            }
        }
        elementaryAreSinks(x, n);
        directionsAreColourings(x, n);
        if (a >= 0) {
            cutLessJoined(x, a, b);
        }
    }

    /** ELEMENTARY of all PARTITIONS of j numbers are SINKS j together. */
    private static void elementaryAreSinks(ColorFunctions x, int n) {
        long[] sums = new long[n + 1];
        for (int k = 0; k < x.partition(n, -1, 0); k++) {
            sums[x.partition(n, k, -1)] += x.part(2, k);
        }
        for (int j = 0; j <= n; j++) {
            due("SINKS " + j, x.sinks(j), sums[j]);
        }
    }

    /** COLOURINGS, a sum of powers of how many colours, are with -1 colours all directions without rings. */
    private static void directionsAreColourings(ColorFunctions x, int n) {
        long all = 0;
        for (int j = 0; j <= n; j++) {
            all += x.sinks(j);
        }
        // the sum's values at -1, 0 .. n have differences that are 0 together from the n-th on
        long sum = 0;
        long times = 1;
        for (int k = 0; k <= n; k++) {
            times = -times * (n + 1 - k) / (k + 1);
            sum -= times * x.colorings(k);
        }
        due("COLOURINGS with -1 colours", n % 2 == 0 ? sum : -sum, all);
    }

    /** A FUNCTION is that without a LINE, less that with its two POINTS JOINED. */
    private static void cutLessJoined(ColorFunctions x, int a, int b) {
        long was = x.colorings(7);
        x.keep(0, 1);
        x.line(a, b, 0);
        long cut = x.colorings(7);
        x.keep(1, 1);
        x.back();
        x.joined(a, b);
        x.keep(2, 1);
        due("COLOURINGS with 7 colours", was, cut - x.colorings(7));
        int w = x.plus(1, 2, 3, 1);
        for (int k = 0; k < x.partition(w, -1, 0); k++) {
            for (int basis = 0; basis < 3; basis++) {
                due("part " + basis + " of PARTITION " + k, x.partOf(3, basis, k), x.partOf(0, basis, k));
            }
        }
        x.back();
        due("same(3)", x.same(3), 1);
    }
}
