import java.util.function.Consumer;

/** The document's Terms and what follows them: for each sentence with a boundary case a test of its own. */
public final class SentencesTest {
    private static final int LEAST = Integer.MIN_VALUE, MOST = Integer.MAX_VALUE;
    private static final long VOID = Long.MIN_VALUE;
    private static int wrong = 0;
    private static String words = "";

    public static void main(String[] args) {
        points();
        joined();
        functions();
        asked();
        rowsAsked();
        shelves();
        texts();
        acts();
        troubles();
        steps();
        bodies();
        answers();
        twoWays();
        details();
        System.out.println(wrong == 0 ? "all answers are as due" : wrong + " answers are not as due");
        if (wrong != 0) {
            System.exit(1);
        }
    }

    /** What the document says, and a test of it on a new object. */
    private static void sentence(String said, Consumer<ColorFunctions> test) {
        words = said;
        test.accept(new ColorFunctions());
    }

    private static void due(String call, long got, long want) {
        if (got != want) {
            wrong++;
            System.out.println("'" + words + "': " + call + " answered " + got + ", due is " + want);
        }
    }

    /** Feeds a text and reads it. */
    private static int read(ColorFunctions x, String text) {
        for (int i = 0; i < text.length(); i++) {
            x.feed(text.charAt(i));
        }
        return x.read();
    }

    private static void did(ColorFunctions x, String text) {
        int answer = read(x, text);
        if (answer < 0) {
            due("the text " + text, answer, 0);
        }
    }

    /** Of each POINT its WEIGHT, its KIND and its NEIGHBOURS, as 1.0-12. */
    private static String shown(ColorFunctions x) {
        StringBuilder all = new StringBuilder();
        for (int i = 0; i < x.count(0); i++) {
            all.append(i == 0 ? "" : " ").append(x.of(i, 1)).append('.').append(x.of(i, 0)).append('-');
            int near = x.of(i, 3);
            for (int j = 0; j < 6; j++) {
                all.append((near >> j & 1) == 1 ? String.valueOf(j) : "");
            }
        }
        return all.toString();
    }

    private static void network(ColorFunctions x, String want) {
        String got = shown(x);
        if (!got.equals(want)) {
            wrong++;
            System.out.println("'" + words + "': THE NETWORK is " + got + ", due is " + want);
        }
    }

    private static void parts(ColorFunctions x, int basis, long... want) {
        for (int k = 0; k < want.length; k++) {
            due("part(" + basis + ", " + k + ")", x.part(basis, k), want[k]);
        }
    }

    private static void partsOf(ColorFunctions x, int shelf, int basis, long... want) {
        for (int k = 0; k < want.length; k++) {
            due("partOf(" + shelf + ", " + basis + ", " + k + ")", x.partOf(shelf, basis, k), want[k]);
        }
    }

    private static void why(ColorFunctions x, long ahead, long begin, long end) {
        due("why(0, 1)", x.why(0, 1), ahead);
        due("why(1, 1)", x.why(1, 1), begin);
        due("why(2, 1)", x.why(2, 1), end);
    }

    private static void traced(ColorFunctions x, int... want) {
        for (int i = 0; i < want.length; i++) {
            due("trace(" + i + ")", x.trace(i), want[i]);
        }
        due("trace(" + want.length + ")", x.trace(want.length), -2);
    }

    private static void row(ColorFunctions x, int shelf, long... numbers) {
        x.row(shelf, numbers.length);
        for (int i = 0; i < numbers.length; i++) {
            x.put(shelf, i, numbers[i]);
        }
    }

    // ---- part 1 ----

    private static void points() {
        sentence("An object is used for at most 512 calls after it has been made", x -> {
            for (int i = 0; i < 511; i++) {
                due("line(0, 1, ..), call " + (i + 1), x.line(0, 1, 1 - i % 2), i % 2);
            }
            due("part(0, 1), call 512", x.part(0, 1), -1);
        });
        sentence("POINTS 0 .. n - 1 (n 1 .. 6; 3 at first)", x -> {
            network(x, "1.0- 1.0- 1.0-");
            due("of(2, 1)", x.of(2, 1), 1);
            due("of(3, 1)", x.of(3, 1), -1);
            due("of(-1, 1)", x.of(-1, 1), -1);
            for (int n = 1; n <= 6; n++) {
                x.points(n);
                due("of(n - 1, 1)", x.of(n - 1, 1), 1);
                due("of(n, 1)", x.of(n, 1), -1);
            }
            due("points(0)", x.points(0), -1);
            due("points(7)", x.points(7), -1);
            due("count(0)", x.count(0), 6);
        });
        sentence("LINES, each between two of them (none at first)", x -> {
            due("count(1)", x.count(1), 0);
            due("line(0, 0, 1)", x.line(0, 0, 1), -1);
            due("line(0, 3, 1)", x.line(0, 3, 1), -1);
            x.points(6);
            for (int a = 0; a < 6; a++) {
                for (int b = 0; b < a; b++) {
                    due("line(a, b, 1)", x.line(a, b, 1), 0);
                }
            }
            due("count(1)", x.count(1), 15);
        });
        sentence("WEIGHT (1 .. 6; 1 at first;", x -> {
            x.points(1);
            due("weight(0, 0)", x.weight(0, 0), -1);
            for (int v = 1; v <= 6; v++) {
                due("weight(0, v)", x.weight(0, v), Math.max(1, v - 1));
            }
            due("weight(0, 7)", x.weight(0, 7), -1);
            due("of(0, 1)", x.of(0, 1), 6);
        });
        sentence("W, all together, is no more than 6)", x -> {
            due("weight(0, 4)", x.weight(0, 4), 1);
            due("count(2)", x.count(2), 6);
            due("weight(0, 5)", x.weight(0, 5), -5);
            due("weight(1, 2)", x.weight(1, 2), -5);
            due("count(2)", x.count(2), 6);
            x.points(6);
            due("weight(5, 2)", x.weight(5, 2), -5);
            x.points(2);
            due("weight(1, 5)", x.weight(1, 5), 1);
            due("weight(1, 6)", x.weight(1, 6), -5);
        });
        sentence("a KIND: 0 POINT (at first);", x -> {
            due("of(0, 0)", x.of(0, 0), 0);
            for (int k = 0; k < 5; k++) {
                due("kind(0, k)", x.kind(0, k), Math.max(0, k - 1));
            }
            due("kind(0, 5)", x.kind(0, 5), -1);
            due("kind(0, -1)", x.kind(0, -1), -1);
            network(x, "1.4- 1.0- 1.0-");
        });
        sentence("NEIGHBOURS of one: those it has a LINE to.", x -> {
            did(x, "n6;l0,1;l1,2;l5,1");
            due("of(1, 3)", x.of(1, 3), 1 + 4 + 32);
            due("of(1, 2)", x.of(1, 2), 3);
            due("of(0, 3)", x.of(0, 3), 2);
            due("of(3, 3)", x.of(3, 3), 0);
            due("of(3, 2)", x.of(3, 2), 0);
        });
    }

    private static void joined() {
        sentence("JOINED are two POINTS a and b that have a LINE: that LINE goes;", x -> {
            due("joined(0, 1)", x.joined(0, 1), -5);
            did(x, "n2;l0,1;j0,1");
            network(x, "2.0-");
            due("count(1)", x.count(1), 0);
        });
        sentence("b goes;", x -> {
            did(x, "l0,1;k0,1;k1,2;k2,3;j0,1");
            network(x, "2.1- 1.3-");
            did(x, "n3;l0,2;k0,1;k1,2;k2,3;j0,2");
            network(x, "2.1- 1.2-");
        });
        sentence("the WEIGHT of a is both together, its KIND stays;", x -> {
            did(x, "w0,2;w1,3;l0,1;k0,4;k1,2;j0,1");
            network(x, "5.4- 1.0-");
            did(x, "n3;w0,2;w1,3;l0,1;k0,4;k1,2;j1,0");
            network(x, "5.2- 1.0-");
        });
        sentence("all NEIGHBOURS of b are NEIGHBOURS of a, too;", x -> {
            did(x, "n6;l1,2;l2,0;l2,5;l1,4;l1,5;j1,2");
            network(x, "1.0-1 2.0-034 1.0- 1.0-1 1.0-1");
        });
        sentence("POINTS behind b have numbers less by 1.", x -> {
            did(x, "n6;l0,2;l3,4;l4,5;l1,3;k3,3;k4,4;k5,2;k1,1;j0,2");
            network(x, "2.0- 1.1-2 1.3-13 1.4-24 1.2-3");
        });
    }

    private static void functions() {
        sentence("PARTITIONS: rows of whole numbers above 0, none greater than the one ahead of it, "
            + "that are W together; numbered from 0 on", x -> {
            String[] all = {"1", "2 11", "3 21 111", "4 31 22 211 1111", "5 41 32 311 221 2111 11111",
                "6 51 42 411 33 321 3111 222 2211 21111 111111"};
            for (int w = 1; w <= 6; w++) {
                String[] some = all[w - 1].split(" ");
                due("partition(w, -1, 0)", x.partition(w, -1, 0), some.length);
                for (int k = 0; k < some.length; k++) {
                    due("partition(w, k, -1)", x.partition(w, k, -1), some[k].length());
                    for (int i = 0; i < some[k].length(); i++) {
                        due("partition(w, k, i)", x.partition(w, k, i), some[k].charAt(i) - '0');
                    }
                }
            }
        });
        sentence("COUNTED of a PARTITION of k numbers: in how many ways the POINTS can have colours 1 .. k so that "
            + "NEIGHBOURS never have the same one, and WEIGHTS of those of colour i are the i-th number together.", x -> {
            did(x, "n4;P0,3;l0,3");
            parts(x, 1, 0, 0, 2, 4, 24);
            did(x, "n3;w0,2;w1,2;l0,2");
            parts(x, 1, 0, 1, 1, 0, 2, 0, 0);
            did(x, "n1");
            parts(x, 1, 1);
            did(x, "n2");
            parts(x, 1, 1, 2);
            did(x, "n1;w0,6");
            parts(x, 1, 1, 0, 0, 0, 0, 0, 0, 0, 0, 0, 0);
        });
        sentence("POWER of a PARTITION: of all sets of LINES (the empty one, too)", x -> {
            parts(x, 0, 0, 0, 1);
            did(x, "n1");
            parts(x, 0, 1);
            did(x, "n2;w0,4;w1,2");
            parts(x, 0, 0, 0, 1, 0, 0, 0, 0, 0, 0, 0, 0);
        });
        sentence("how many have an even number of LINES, less how many an odd one.", x -> {
            did(x, "n4;P0,3;l0,3");
            parts(x, 0, -3, 4, 2, -4, 1);
            did(x, "n2;w0,2;w1,3;l0,1");
            parts(x, 0, -1, 0, 1, 0, 0, 0, 0);
            did(x, "n6;S0,5;S1,5;S2,5;S3,5;S4,5");
            parts(x, 0, -120, 144, 90, -90, 40, -120, 40, -15, 45, -15, 1);
        });
        sentence("ELEMENTARY: whole numbers, one for each PARTITION, so that for each PARTITION m COUNTED of m is, "
            + "of all PARTITIONS l together, ELEMENTARY of l times how many tables of 0 and 1 there are", x -> {
            did(x, "n4;P0,3;l0,3");
            parts(x, 2, 12, 0, 2, 0, 0);
            did(x, "n1");
            parts(x, 2, 1);
            did(x, "n1;w0,2");
            parts(x, 2, -2, 1);
            did(x, "n1;w0,6");
            parts(x, 2, -6, 6, 6, -6, 3, -12, 6, -2, 9, -6, 1);
            did(x, "n6;S0,5;S1,5;S2,5;S3,5;S4,5");
            parts(x, 2, 720, 0, 0, 0, 0, 0, 0, 0, 0, 0, 0);
            did(x, "n6");
            parts(x, 2, 0, 0, 0, 0, 0, 0, 0, 0, 0, 0, 1);
        });
        sentence("THE FUNCTION of THE NETWORK: its W and POWER of all PARTITIONS of W.", x -> {
            did(x, "n4;P0,3;l0,3");
            x.keep(0, 1);
            due("weightOf(0)", x.weightOf(0), 4);
            partsOf(x, 0, 0, -3, 4, 2, -4, 1);
            did(x, "n1;w0,6");
            x.keep(0, 1);
            due("weightOf(0)", x.weightOf(0), 6);
            partsOf(x, 0, 0, 1, 0, 0, 0, 0, 0, 0, 0, 0, 0, 0);
        });
        sentence("Of any FUNCTION (W 1 .. 6, a whole number for each PARTITION of W as its POWER): COUNTED of m is, "
            + "of all PARTITIONS l together, POWER of l times how many ways there are", x -> {
            x.keep(0, 1);
            x.line(0, 1, 1);
            x.keep(1, 1);
            x.plus(1, 0, 2, 1);
            partsOf(x, 2, 0, 0, -1, 0);
            partsOf(x, 2, 1, -1, -1, 0);
            partsOf(x, 2, 2, 0, 2, -1);
            x.plus(2, 2, 2, 1);
            partsOf(x, 2, 1, 0, 0, 0);
            partsOf(x, 2, 2, 0, 0, 0);
            did(x, "n1");
            x.keep(3, 1);
            partsOf(x, 3, 1, 1);
            partsOf(x, 3, 2, 1);
        });
        sentence("(Of THE NETWORK's that is the same as told above.)", x -> {
            did(x, "n4;P0,3;l0,3");
            x.keep(0, 1);
            partsOf(x, 0, 1, 0, 0, 2, 4, 24);
            partsOf(x, 0, 2, 12, 0, 2, 0, 0);
        });
    }

    // ---- part 2 ----

    private static void asked() {
        sentence("COLOURINGS with k colours (0 .. 9): in how many ways POINTS can have colours 1 .. k, "
            + "NEIGHBOURS never the same.", x -> {
            due("colorings(0)", x.colorings(0), 0);
            due("colorings(1)", x.colorings(1), 1);
            due("colorings(9)", x.colorings(9), 729);
            due("colorings(10)", x.colorings(10), VOID);
            due("colorings(-1)", x.colorings(-1), VOID);
            x.line(0, 1, 1);
            due("colorings(0)", x.colorings(0), 0);
            due("colorings(1)", x.colorings(1), 0);
            due("colorings(2)", x.colorings(2), 4);
            due("colorings(9)", x.colorings(9), 648);
            did(x, "n6;S0,5;S1,5;S2,5;S3,5;S4,5");
            due("colorings(5)", x.colorings(5), 0);
            due("colorings(6)", x.colorings(6), 720);
            due("colorings(9)", x.colorings(9), 60480);
        });
        sentence("SINKS j: in how many ways each LINE can have a direction so that nobody comes back to a POINT along "
            + "them, and just j POINTS have no LINE that leads away.", x -> {
            did(x, "n4;P0,3;l0,3");
            int[] ring = {0, 12, 2, 0, 0};
            for (int j = 0; j <= 4; j++) {
                due("sinks(" + j + ") of a ring", x.sinks(j), ring[j]);
            }
            did(x, "n1");
            due("sinks(0) of one", x.sinks(0), 0);
            due("sinks(1) of one", x.sinks(1), 1);
            did(x, "n6;S0,5;S1,5;S2,5;S3,5;S4,5");
            due("sinks(0) of all lines", x.sinks(0), 0);
            due("sinks(1) of all lines", x.sinks(1), 720);
            due("sinks(6) of all lines", x.sinks(6), 0);
            did(x, "n6");
            due("sinks(5) of no lines", x.sinks(5), 0);
            due("sinks(6) of no lines", x.sinks(6), 1);
        });
        sentence("TREE: all hangs together, with one LINE fewer than POINTS.", x -> {
            String[] trees = {"n1", "n2;l0,1", "n6;P0,5", "n6;S0,5"};
            String[] others = {"n2", "n3;l0,1", "n3;P0,2;l0,2", "n4;P0,2;l0,2", "n6;P0,5;l0,5", "n6;P0,4;l0,2"};
            for (String text : trees) {
                did(x, text);
                due("count(4) of " + text, x.count(4), 1);
                due("peeled(1) of " + text, x.peeled(1) > 0 ? 1 : 0, 1);
            }
            for (String text : others) {
                did(x, text);
                due("count(4) of " + text, x.count(4), 0);
                due("peeled(1) of " + text, x.peeled(1), -5);
            }
        });
        sentence("PEELED is a TREE: round by round all POINTS with one LINE go together, as long as there are more than "
            + "two: how many rounds; the CENTRE (bits).", x -> {
            String[] trees = {"n2;l0,1", "n3;P0,2", "n4;P0,3", "n5;P0,4", "n6;P0,5", "n6;S0,5", "n6;S0,4;l4,5", "n6;S0,2;S3,5;l0,3"};
            int[] rounds = {0, 1, 1, 2, 2, 1, 1, 1};
            int[] centre = {3, 2, 6, 4, 12, 1, 17, 9};
            for (int i = 0; i < trees.length; i++) {
                did(x, trees[i]);
                due("peeled(0) of " + trees[i], x.peeled(0), rounds[i]);
                due("peeled(1) of " + trees[i], x.peeled(1), centre[i]);
            }
        });
        sentence("LIKE are two NETWORKS, if the POINTS of the one can be renamed so that LINES and WEIGHTS are those "
            + "of the other.", x -> {
            did(x, "n6;P0,5");
            x.keep(0, 0);
            due("like(0), itself", x.like(0), 1);
            did(x, "n6;l5,3;l3,1;l1,0;l0,2;l2,4");
            due("like(0), renamed", x.like(0), 1);
            did(x, "n5;P0,4");
            due("like(0), one POINT fewer", x.like(0), 0);
            did(x, "n6;P0,4;l3,5");
            due("like(0), LINES else", x.like(0), 0);
            did(x, "n6;P0,4");
            due("like(0), a LINE fewer", x.like(0), 0);
            did(x, "n3;P0,2;w0,2");
            x.keep(0, 0);
            did(x, "n3;P0,2;w2,2");
            due("like(0), the WEIGHT at the other end", x.like(0), 1);
            did(x, "n3;P0,2;w1,2");
            due("like(0), the WEIGHT in the middle", x.like(0), 0);
            did(x, "n3;P0,2;w0,3");
            due("like(0), another WEIGHT", x.like(0), 0);
            did(x, "n1");
            x.keep(0, 0);
            due("like(0), of one", x.like(0), 1);
        });
        sentence("All that follows is asked, and changes nothing.", x -> {
            did(x, "n4;P0,3;w0,2;k1,2");
            x.keep(0, 0);
            x.keep(1, 1);
            x.film(2);
            String was = shown(x);
            x.colorings(9);
            x.sinks(1);
            x.peeled(0);
            x.peeled(1);
            x.like(0);
            x.same(1);
            x.fits(2, 10, 0);
            x.fits(2, 0, 1);
            x.judge(2);
            x.part(2, 3);
            x.partOf(1, 2, 3);
            network(x, was);
            due("count(5)", x.count(5), 6);
            due("get(2, 9)", x.get(2, 9), 9 * 8 * 8 * 8);
            due("get(2, 10)", x.get(2, 10), VOID);
            due("count(7)", x.count(7), 3);
        });
    }

    private static void rowsAsked() {
        sentence("FITS: a ROW tells COLOURINGS with 0, 1, 2 .. colours (its first m places, 0 .. 10):", x -> {
            x.line(0, 1, 1);
            x.film(0);
            x.line(0, 1, 0);
            due("fits(0, 0, 0)", x.fits(0, 0, 0), 3);
            due("fits(0, 10, 0)", x.fits(0, 10, 0), 3);
            due("fits(0, 11, 0)", x.fits(0, 11, 0), -1);
            due("fits(0, -1, 0)", x.fits(0, -1, 0), -1);
            for (int m = 10; m >= 1; m--) {
                x.put(0, m - 1, -1);
                due("fits(0, " + m + ", 0)", x.fits(0, m, 0), 0);
                due("fits(0, " + (m - 1) + ", 0)", x.fits(0, m - 1, 0), 3);
            }
        });
        sentence("the two POINTS without a LINE by which, were there one, all of it is so: how many such twos;", x -> {
            did(x, "n6;P0,5;l0,5");
            x.film(0);
            due("fits(0, 10, 0) of the ring itself", x.fits(0, 10, 0), 0);
            due("fits(0, 2, 0)", x.fits(0, 2, 0), 9);
            x.line(3, 4, 0);
            due("fits(0, 10, 0)", x.fits(0, 10, 0), 1);
            due("fits(0, 10, 1)", x.fits(0, 10, 1), 34);
            did(x, "n6;S0,5;S1,5;S2,5;S3,5;S4,5");
            due("fits(0, 0, 0) of all LINES", x.fits(0, 0, 0), 0);
            did(x, "n6");
            due("fits(0, 0, 0) of none", x.fits(0, 0, 0), 15);
            did(x, "n1");
            due("fits(0, 0, 0) of one POINT", x.fits(0, 0, 0), 0);
        });
        sentence("the first (10 times the lesser, and the greater, the least first; NOT).", x -> {
            x.row(0, 0);
            due("fits(0, 0, 1)", x.fits(0, 0, 1), 1);
            x.line(0, 1, 1);
            due("fits(0, 0, 1)", x.fits(0, 0, 1), 2);
            x.line(0, 2, 1);
            due("fits(0, 0, 1)", x.fits(0, 0, 1), 12);
            x.line(1, 2, 1);
            due("fits(0, 0, 1)", x.fits(0, 0, 1), -2);
            did(x, "n6;S0,5;S1,5;S2,5;S3,5");
            due("fits(0, 0, 1)", x.fits(0, 0, 1), 45);
            did(x, "n1");
            due("fits(0, 0, 1)", x.fits(0, 0, 1), -2);
        });
        sentence("JUDGED: a ROW tells colours of POINTS 0, 1, ..: the first POINT with a colour that a NEIGHBOUR of a "
            + "lesser number has, too;", x -> {
            did(x, "n6;l0,5;l2,4");
            row(x, 0, 7, 7, 8, 8, 8, 7);
            due("judge(0)", x.judge(0), 4);
            x.put(0, 4, 9);
            due("judge(0)", x.judge(0), 5);
            x.line(0, 1, 1);
            due("judge(0)", x.judge(0), 1);
            row(x, 0, VOID, VOID);
            due("judge(0), any longs", x.judge(0), 1);
        });
        sentence("-2: none;", x -> {
            did(x, "n2;l0,1");
            row(x, 0, 1, 2);
            due("judge(0)", x.judge(0), -2);
            row(x, 0, 1L << 32, 0);
            due("judge(0), like in the last 32 bits alone", x.judge(0), -2);
            did(x, "n6");
            x.row(0, 40);
            due("judge(0), no LINES", x.judge(0), -2);
        });
        sentence("100 and how many were looked at, if it ends ahead of that.", x -> {
            did(x, "n3;l1,2");
            x.row(0, 0);
            due("judge(0)", x.judge(0), 100);
            x.row(0, 1);
            due("judge(0)", x.judge(0), 101);
            x.row(0, 2);
            due("judge(0)", x.judge(0), 102);
            x.row(0, 3);
            due("judge(0)", x.judge(0), 2);
            did(x, "n6;l0,1");
            row(x, 0, 1, 2, 3, 4, 5);
            due("judge(0)", x.judge(0), 105);
            row(x, 0, 1, 1);
            due("judge(0), found ahead of the end", x.judge(0), 1);
        });
    }

    // ---- part 3: shelves ----

    private static void shelves() {
        sentence("SHELVES 0 .. 3 hold nothing (at first), a NETWORK (with WEIGHTS, KINDS), a FUNCTION, or a ROW", x -> {
            for (int s = 0; s < 4; s++) {
                due("weightOf(s)", x.weightOf(s), -11);
            }
            due("weightOf(4)", x.weightOf(4), -1);
            due("weightOf(-1)", x.weightOf(-1), -1);
            did(x, "n2;w1,4;k0,3;l0,1");
            for (int s = 0; s < 4; s++) {
                due("keep(s, 0)", x.keep(s, 0), 5);
            }
            due("keep(4, 0)", x.keep(4, 0), -1);
            due("count(7)", x.count(7), 4);
            x.points(3);
            x.lay(3);
            network(x, "1.3-1 4.0-0");
        });
        sentence("a ROW (0 .. 40 longs):", x -> {
            due("row(0, 0)", x.row(0, 0), 1);
            due("put(0, 0, 1)", x.put(0, 0, 1), -13);
            due("row(0, 40)", x.row(0, 40), 1);
            due("put(0, 39, VOID)", x.put(0, 39, VOID), 1);
            due("put(0, 38, Long.MAX_VALUE)", x.put(0, 38, Long.MAX_VALUE), 1);
            due("get(0, 39)", x.get(0, 39), VOID);
            due("get(0, 38)", x.get(0, 38), Long.MAX_VALUE);
            due("row(0, 41)", x.row(0, 41), -1);
            due("get(0, 38)", x.get(0, 38), Long.MAX_VALUE);
        });
        sentence("-11 nothing lies there,", x -> {
            x.keep(0, 1);
            due("lay(3)", x.lay(3), -11);
            due("like(3)", x.like(3), -11);
            due("same(3)", x.same(3), -11);
            due("weightOf(3)", x.weightOf(3), -11);
            due("plus(3, 0, 1, 0)", x.plus(3, 0, 1, 0), -11);
            due("plus(0, 3, 1, 0)", x.plus(0, 3, 1, 0), -11);
            due("multiply(3, 0, 1)", x.multiply(3, 0, 1), -11);
            due("multiply(0, 3, 1)", x.multiply(0, 3, 1), -11);
            due("put(3, 0, 1)", x.put(3, 0, 1), -11);
            due("fits(3, 0, 0)", x.fits(3, 0, 0), -11);
            due("judge(3)", x.judge(3), -11);
            due("count(7)", x.count(7), 1);
        });
        sentence("-12 something of another sort,", x -> {
            x.keep(0, 0);
            x.keep(1, 1);
            x.row(2, 10);
            int[] noNetwork = {1, 2}, noFunction = {0, 2}, noRow = {0, 1};
            for (int s : noNetwork) {
                due("lay(" + s + ")", x.lay(s), -12);
                due("like(" + s + ")", x.like(s), -12);
            }
            for (int s : noFunction) {
                due("same(" + s + ")", x.same(s), -12);
                due("weightOf(" + s + ")", x.weightOf(s), -12);
                due("plus(" + s + ", 1, 3, 0)", x.plus(s, 1, 3, 0), -12);
                due("plus(1, " + s + ", 3, 0)", x.plus(1, s, 3, 0), -12);
                due("multiply(" + s + ", 1, 3)", x.multiply(s, 1, 3), -12);
                due("multiply(1, " + s + ", 3)", x.multiply(1, s, 3), -12);
            }
            for (int s : noRow) {
                due("put(" + s + ", 0, 1)", x.put(s, 0, 1), -12);
                due("fits(" + s + ", 0, 0)", x.fits(s, 0, 0), -12);
                due("judge(" + s + ")", x.judge(s), -12);
            }
            due("count(7)", x.count(7), 3);
        });
        sentence("-13 a place outside a ROW,", x -> {
            x.row(0, 3);
            due("put(0, 2, 1)", x.put(0, 2, 1), 1);
            due("put(0, 3, 1)", x.put(0, 3, 1), -13);
            due("put(0, -1, 1)", x.put(0, -1, 1), -13);
            due("put(0, 39, 1)", x.put(0, 39, 1), -13);
            due("put(0, MOST, 1)", x.put(0, MOST, 1), -13);
            due("put(0, LEAST, 1)", x.put(0, LEAST, 1), -13);
            due("fits(0, 3, 0)", x.fits(0, 3, 0), 0);
            due("fits(0, 4, 0)", x.fits(0, 4, 0), -13);
        });
        sentence("-14 a size below 0.", x -> {
            due("row(0, -1), nothing", x.row(0, -1), 1);
            due("row(0, -2)", x.row(0, -2), -14);
            due("row(0, LEAST)", x.row(0, LEAST), -14);
        });
        sentence("SUM of two FUNCTIONS of the same W: POWER each together, or one less the other.", x -> {
            x.keep(0, 1);
            did(x, "P0,2");
            x.keep(1, 1);
            due("plus(0, 1, 2, 0)", x.plus(0, 1, 2, 0), 3);
            partsOf(x, 2, 0, 1, -2, 2);
            due("plus(0, 1, 2, 1)", x.plus(0, 1, 2, 1), 3);
            partsOf(x, 2, 0, -1, 2, 0);
            due("plus(1, 0, 2, 1)", x.plus(1, 0, 2, 1), 3);
            partsOf(x, 2, 0, 1, -2, 0);
            x.points(2);
            x.keep(3, 1);
            due("plus(0, 3, 2, 0)", x.plus(0, 3, 2, 0), -5);
            due("plus(3, 0, 2, 1)", x.plus(3, 0, 2, 1), -5);
            partsOf(x, 2, 0, 1, -2, 0);
        });
        sentence("PRODUCT of two: of W's together (6 at most);", x -> {
            for (int w = 1; w <= 5; w++) {
                x.points(w);
                x.keep(0, 1);
                x.points(6 - w);
                x.keep(1, 1);
                due("multiply(0, 1, 2)", x.multiply(0, 1, 2), 6);
                due("weightOf(2)", x.weightOf(2), 6);
                x.points(7 - w);
                x.keep(1, 1);
                due("multiply(0, 1, 2)", x.multiply(0, 1, 2), -5);
                due("multiply(1, 0, 2)", x.multiply(1, 0, 2), -5);
            }
            x.points(1);
            x.keep(0, 1);
            due("multiply(0, 0, 0)", x.multiply(0, 0, 0), 2);
        });
        sentence("POWER of one of its PARTITIONS: of all twos of PARTITIONS, one of each, whose numbers together are "
            + "that PARTITION, the products of both POWERS, together.", x -> {
            did(x, "P0,2");
            x.keep(0, 1);
            x.multiply(0, 0, 1);
            partsOf(x, 1, 0, 0, 0, 0, 0, 1, -4, 2, 0, 4, -4, 1);
            did(x, "n2;l0,1");
            x.keep(1, 1);
            x.multiply(0, 1, 2);
            partsOf(x, 2, 0, 0, 0, -1, 1, 2, -3, 1);
            did(x, "n1;w0,2");
            x.keep(1, 1);
            x.multiply(1, 1, 1);
            x.multiply(1, 1, 2);
            partsOf(x, 1, 0, 0, 0, 1, 0, 0);
        });
    }

    // ---- part 3: texts ----

    private static void texts() {
        sentence("THE TAPE holds 0 .. 80 bytes 32 .. 126.", x -> {
            due("count(6)", x.count(6), 0);
            due("feed(31)", x.feed(31), -1);
            due("feed(127)", x.feed(127), -1);
            for (int i = 0; i < 80; i++) {
                due("feed", x.feed(i % 2 == 0 ? 32 : 126), i + 1);
            }
            due("feed(32)", x.feed(32), -3);
            due("feed(126)", x.feed(126), -3);
            due("count(6)", x.count(6), 80);
            due("wipe()", x.wipe(), 80);
        });
        sentence("A TEXT: ACTS, one or more, parted by ;", x -> {
            due("no ACT", x.read(), -100);
            due("one ACT", read(x, "n4"), 1);
            due("two ACTS", read(x, "n4;n5"), 2);
            due("a ; alone", read(x, ";"), -100);
            due("a ; ahead", read(x, ";n4"), -100);
            due("a ; behind", read(x, "n4;"), -103);
            due("two ;", read(x, "n4;;n5"), -103);
            due("none", read(x, "n4n5"), -102);
            due("count(0)", x.count(0), 5);
        });
        sentence("a letter, then numbers of 1 figure with a comma between:", x -> {
            for (int c = 32; c < 127; c++) {
                boolean letter = "nluwkjPS".indexOf(c) >= 0;
                x.feed(c);
                due("the first byte " + (char) c, x.read(), letter ? -101 : -100);
            }
        });
        // in objects of their own, as there are 95 bytes to try at each place
        sentence("n POINTS (as points());", x -> {
            for (int c = 32; c < 127; c++) {
                x.feed('n');
                x.feed(c);
                boolean figure = c >= '0' && c <= '9';
                due("n" + (char) c, x.read(), !figure ? -101 : c >= '1' && c <= '6' ? 1 : -200);
            }
            due("n12", read(x, "n12"), -102);
            due("n1,2", read(x, "n1,2"), -102);
            due("n-1", read(x, "n-1"), -101);
            due("count(0)", x.count(0), 6);
        });
        sentence("a letter, then numbers of 1 figure", x -> {
            for (int c = 32; c < 127; c++) {
                x.feed('l');
                x.feed(c);
                due("l" + (char) c, x.read(), c >= '0' && c <= '9' ? -102 : -101);
            }
        });
        sentence("with a comma between", x -> {
            for (int c = 32; c < 127; c++) {
                x.feed('l');
                x.feed('0');
                x.feed(c);
                due("l0" + (char) c, x.read(), c == ',' ? -103 : -102);
            }
        });
        sentence("numbers of 1 figure with a comma between", x -> {
            for (int c = 32; c < 127; c++) {
                x.feed('l');
                x.feed('0');
                x.feed(',');
                x.feed(c);
                boolean figure = c >= '0' && c <= '9';
                due("l0," + (char) c, x.read(), !figure ? -103 : c == '1' || c == '2' ? 1 : -200);
            }
        });
        sentence("parted by ;", x -> {
            for (int c = 48; c < 127; c++) {
                x.feed('l');
                x.feed('0');
                x.feed(',');
                x.feed('1');
                x.feed(c);
                due("l0,1" + (char) c, x.read(), c == ';' ? -105 : -104);
            }
            due("l0,1 and a blank", read(x, "l0,1 "), -104);
            due("l0,1,", read(x, "l0,1,"), -104);
        });
        sentence("No blanks.", x -> {
            due("a blank alone", read(x, " "), -100);
            due("ahead", read(x, " n4"), -100);
            due("behind the letter", read(x, "n 4"), -101);
            due("behind", read(x, "n4 "), -102);
            due("behind a ;", read(x, "n4; n4"), -103);
            due("behind a comma", read(x, "l0, 1"), -103);
        });
        sentence("The whole text is looked at first.", x -> {
            due("n4;l0,1;x", read(x, "n4;l0,1;x"), -108);
            network(x, "1.0- 1.0- 1.0-");
            due("count(5)", x.count(5), 0);
            due("n9;n4;x, a FAULT ahead of what would be refused", read(x, "n9;n4;x"), -106);
            due("j0,1;", read(x, "j0,1;"), -105);
        });
        sentence("FAULT: the first byte with which no such text goes on, or the length, if it ends too early: "
            + "-100 less it.", x -> {
            due("the first byte", read(x, "xn"), -100);
            due("the first of two", read(x, "n4;xx"), -103);
            due("nothing", read(x, ""), -100);
            due("a letter", read(x, "S"), -101);
            due("n", read(x, "n"), -101);
            due("l0", read(x, "l0"), -102);
            due("l0,", read(x, "l0,"), -103);
            due("80 bytes, too early", read(x, "l0,1;".repeat(16)), -180);
            due("the last byte of 80", read(x, "l0,1;".repeat(15) + "l0,1x"), -179);
            due("the last byte, a figure else", read(x, "n1;".repeat(26) + "n,"), -179);
        });
        sentence("An ACT refused (as the call would be; P, S else than told, or of what is no POINT): -200 less the "
            + "number of ACTS ahead of it: those ahead are done, those behind are not.", x -> {
            due("n0", read(x, "n0"), -200);
            network(x, "1.0- 1.0- 1.0-");
            due("l0,1;n7;l1,2", read(x, "l0,1;n7;l1,2"), -201);
            network(x, "1.0-1 1.0-0 1.0-");
            due("26 ahead", read(x, "n1;".repeat(26) + "n0"), -226);
            network(x, "1.0-");
        });
    }

    private static void acts() {
        sentence("l a, b (a LINE); u a, b (none);", x -> {
            due("l2,0", read(x, "l2,0"), 1);
            network(x, "1.0-2 1.0- 1.0-0");
            due("l0,2 again", read(x, "l0,2"), 1);
            network(x, "1.0-2 1.0- 1.0-0");
            due("u0,2", read(x, "u0,2"), 1);
            network(x, "1.0- 1.0- 1.0-");
            due("u0,2 again", read(x, "u0,2"), 1);
            due("l0,0", read(x, "l0,0"), -200);
            due("l0,3", read(x, "l0,3"), -200);
            due("u3,0", read(x, "u3,0"), -200);
            due("u1,1", read(x, "u1,1"), -200);
        });
        sentence("w POINT, WEIGHT;", x -> {
            due("w2,4", read(x, "w2,4"), 1);
            network(x, "1.0- 1.0- 4.0-");
            due("w2,5, above 6", read(x, "w2,5"), -200);
            why(x, 0, 0, -5);
            due("w2,0", read(x, "w2,0"), -200);
            why(x, 0, 0, -1);
            due("w2,7", read(x, "w2,7"), -200);
            why(x, 0, 0, -1);
            due("w3,1", read(x, "w3,1"), -200);
        });
        sentence("k POINT, KIND;", x -> {
            due("k1,4", read(x, "k1,4"), 1);
            network(x, "1.0- 1.4- 1.0-");
            due("k1,5", read(x, "k1,5"), -200);
            due("k3,0", read(x, "k3,0"), -200);
            due("k1,0", read(x, "k1,0"), 1);
            network(x, "1.0- 1.0- 1.0-");
        });
        sentence("j a, b (JOINED);", x -> {
            due("j0,1 without a LINE", read(x, "j0,1"), -200);
            why(x, 0, 0, -5);
            due("j1,1", read(x, "j1,1"), -200);
            why(x, 0, 0, -1);
            due("j0,3", read(x, "j0,3"), -200);
            due("j1,0", read(x, "l0,1;k0,2;k1,3;j1,0"), 4);
            network(x, "2.3- 1.0-");
        });
        sentence("P a, b (LINES between a and a + 1, .., b - 1 and b; b above a);", x -> {
            due("P1,4", read(x, "n6;P1,4"), 2);
            network(x, "1.0- 1.0-2 1.0-13 1.0-24 1.0-3 1.0-");
            due("P0,5", read(x, "n6;P0,5"), 2);
            network(x, "1.0-1 1.0-02 1.0-13 1.0-24 1.0-35 1.0-4");
            due("P4,5", read(x, "n6;P4,5"), 2);
            network(x, "1.0- 1.0- 1.0- 1.0- 1.0-5 1.0-4");
            due("P3,3", read(x, "P3,3"), -200);
            due("P4,3", read(x, "P4,3"), -200);
            due("P0,6", read(x, "P0,6"), -200);
            due("P6,7", read(x, "P6,7"), -200);
            due("P9,9", read(x, "P9,9"), -200);
            network(x, "1.0- 1.0- 1.0- 1.0- 1.0-5 1.0-4");
        });
        sentence("S a, b (LINES between a and each of a + 1 .. b; b above a).", x -> {
            due("S1,4", read(x, "n6;S1,4"), 2);
            network(x, "1.0- 1.0-234 1.0-1 1.0-1 1.0-1 1.0-");
            due("S0,5", read(x, "n6;S0,5"), 2);
            network(x, "1.0-12345 1.0-0 1.0-0 1.0-0 1.0-0 1.0-0");
            due("S4,5", read(x, "n6;S4,5"), 2);
            network(x, "1.0- 1.0- 1.0- 1.0- 1.0-5 1.0-4");
            due("S3,3", read(x, "S3,3"), -200);
            due("S4,3", read(x, "S4,3"), -200);
            due("S0,6", read(x, "S0,6"), -200);
            due("S6,7", read(x, "S6,7"), -200);
            due("S9,9", read(x, "S9,9"), -200);
            network(x, "1.0- 1.0- 1.0- 1.0- 1.0-5 1.0-4");
        });
    }

    private static void troubles() {
        sentence("WHY tells of the latest read() that was refused (none at first), three TROUBLES, each the CAUSE of the "
            + "one ahead of it:", x -> {
            for (int i = -1; i < 4; i++) {
                due("why(i, 0) at first", x.why(i, 0), VOID);
                due("why(i, 1) at first", x.why(i, 1), VOID);
            }
            did(x, "n4");
            due("why(0, 0), none refused", x.why(0, 0), VOID);
            read(x, "");
            for (int i = 0; i < 3; i++) {
                due("why(i, 0)", x.why(i, 0), i + 1);
                due("why(i, 1)", x.why(i, 1), 0);
            }
            due("why(-1, 0)", x.why(-1, 0), VOID);
            due("why(3, 0)", x.why(3, 0), VOID);
            read(x, "n5;k0,9");
            why(x, 1, 3, -1);
            read(x, "n5;k0,1;w");
            why(x, 2, 8, 9);
        });
        sentence("of sort 1 how many ACTS stand wholly ahead of it in the text;", x -> {
            read(x, "x");
            due("none", x.why(0, 1), 0);
            read(x, "l0,1;l1,2;l0,");
            due("two, by a FAULT", x.why(0, 1), 2);
            read(x, "n1;".repeat(26));
            due("26, by a FAULT", x.why(0, 1), 26);
            read(x, "n1;".repeat(26) + "n0");
            due("26, by a refusal", x.why(0, 1), 26);
            read(x, "n0;n1;n1");
            due("none, by a refusal", x.why(0, 1), 0);
        });
        sentence("of sort 2 the place where the ACT begins;", x -> {
            read(x, "l0");
            due("the first, a FAULT", x.why(1, 1), 0);
            read(x, "n3;l0,1;l0,x");
            due("the third, a FAULT", x.why(1, 1), 8);
            read(x, "n3;l0,1;");
            due("ahead of its letter", x.why(1, 1), 8);
            read(x, "n3;l0,1;l0,9;n1");
            due("the third, refused", x.why(1, 1), 8);
            read(x, "n1;".repeat(26) + "n0");
            due("the last of 80 bytes", x.why(1, 1), 78);
            read(x, "l0,1;".repeat(16));
            due("behind 80 bytes", x.why(1, 1), 80);
        });
        sentence("of sort 3 the FAULT, or, of an ACT refused, the call's answer (-1 of P, S else than told).", x -> {
            read(x, "n4;l0;");
            due("the FAULT", x.why(2, 1), 5);
            read(x, "l0,1;".repeat(16));
            due("the FAULT, the length", x.why(2, 1), 80);
            read(x, "n3;j0,1");
            due("STATE of joined()", x.why(2, 1), -5);
            read(x, "n3;w0,5");
            due("STATE of weight()", x.why(2, 1), -5);
            read(x, "n3;w0,7");
            due("BAD of weight()", x.why(2, 1), -1);
            read(x, "n3;P1,1");
            due("P", x.why(2, 1), -1);
            read(x, "n3;j0,1");
            read(x, "n3;S0,3");
            due("S", x.why(2, 1), -1);
        });
        sentence("(Of a FAULT right behind an ACT, where a ; would have to stand: that ACT counts as wholly ahead, and "
            + "sort 2 tells where it begins.)", x -> {
            read(x, "n4x");
            why(x, 1, 0, 2);
            read(x, "n4;l0,1x");
            why(x, 2, 3, 7);
            read(x, "n4;l0,1,");
            why(x, 2, 3, 7);
            read(x, "l0,1;n45");
            why(x, 2, 5, 7);
            read(x, "l0,1;n4;x");
            why(x, 2, 8, 8);
        });
    }

    private static void steps() {
        sentence("STEPS: what points(), weight(), kind(), line(), joined(), lay()", x -> {
            x.line(0, 1, 1);
            String[] then = new String[6];
            then[0] = shown(x);
            x.weight(0, 2);
            then[1] = shown(x);
            x.kind(1, 3);
            then[2] = shown(x);
            x.line(1, 2, 1);
            then[3] = shown(x);
            x.keep(0, 0);
            x.joined(0, 1);
            then[4] = shown(x);
            x.points(5);
            then[5] = shown(x);
            x.lay(0);
            due("count(5)", x.count(5), 7);
            for (int i = 5; i >= 0; i--) {
                due("back()", x.back(), i + 1);
                network(x, then[i]);
            }
            due("back()", x.back(), 0);
            network(x, "1.0- 1.0- 1.0-");
            due("back()", x.back(), -5);
        });
        sentence("(by read(), too: P, S one for each LINE)", x -> {
            did(x, "n4;w0,2;k1,3;l0,1;u0,1;l0,1;j0,1");
            due("count(5)", x.count(5), 7);
            due("back()", x.back(), 6);
            network(x, "2.0-1 1.3-0 1.0- 1.0-");
            x.image();
            x.undo();
            did(x, "n5;P0,4");
            due("count(5) by P", x.count(5), 5);
            due("back()", x.back(), 4);
            network(x, "1.0-1 1.0-02 1.0-13 1.0-2 1.0-");
            x.undo();
            did(x, "n5;S1,4");
            due("count(5) by S", x.count(5), 4);
            due("back()", x.back(), 3);
            network(x, "1.0- 1.0-23 1.0-1 1.0-1 1.0-");
            due("S1,3 once more", read(x, "S1,3"), 1);
            due("count(5) by LINES that were there", x.count(5), 3);
            due("P1,3: one of two was there", read(x, "P1,3"), 1);
            due("count(5)", x.count(5), 4);
        });
        sentence("can be taken BACK, the latest first, 8 at most (then the eldest is none any more).", x -> {
            for (int i = 0; i < 12; i++) {
                x.points(1 + i % 6);
                due("count(5)", x.count(5), Math.min(8, i + 1));
            }
            for (int i = 10; i >= 3; i--) {
                due("back()", x.back(), i - 3);
                due("count(0)", x.count(0), 1 + i % 6);
            }
            due("back()", x.back(), -5);
            due("count(0)", x.count(0), 4);
            x.kind(0, 1);
            due("count(5)", x.count(5), 1);
            due("back()", x.back(), 0);
            network(x, "1.0- 1.0- 1.0- 1.0-");
        });
        sentence("undo() leaves none.", x -> {
            x.line(0, 1, 1);
            x.image();
            due("count(5)", x.count(5), 1);
            x.line(0, 1, 0);
            due("undo()", x.undo(), 3);
            due("count(5)", x.count(5), 0);
            due("back()", x.back(), -5);
            network(x, "1.0-1 1.0-0 1.0-");
            x.line(1, 2, 1);
            due("undo()", x.undo(), 3);
            due("undo() with nothing otherwise", x.undo(), 3);
            due("count(5)", x.count(5), 0);
        });
        sentence("THE IMAGE: THE NETWORK.", x -> {
            did(x, "n4;w1,3;k2,4;P0,3");
            x.image();
            did(x, "j1,2;k0,1;w1,2");
            due("undo()", x.undo(), 4);
            network(x, "1.0-1 3.0-02 1.4-13 1.0-2");
            did(x, "n1");
            due("image()", x.image(), 1);
            did(x, "n6");
            due("undo()", x.undo(), 1);
            network(x, "1.0-");
        });
        sentence("All is as THE IMAGE: how many POINTS.", x -> {
            did(x, "n4;w1,3;k1,4;P0,3");
            x.image();
            due("undo() with nothing otherwise", x.undo(), 4);
            network(x, "1.0-1 3.4-02 1.0-13 1.0-2");
            for (String text : new String[] {"n1", "n6;S0,5", "u0,1;k1,0;w1,1", "j1,0;j0,1", "n4;P0,3;w1,3"}) {
                did(x, text);
                due("undo() behind " + text, x.undo(), 4);
                network(x, "1.0-1 3.4-02 1.0-13 1.0-2");
                due("count(5)", x.count(5), 0);
            }
            parts(x, 0, -1, 2, 1, -2, 0, -1, 1, 0, 0, 0, 0);
            due("taken(1, 1)", x.taken(1, 1), 3);
        });
        sentence("All is as THE IMAGE: .. STATE: there is none.", x -> {
            x.line(0, 1, 1);
            due("undo()", x.undo(), -5);
            x.keep(0, 0);
            x.points(2);
            x.lay(0);
            x.back();
            due("undo(), what lies on a SHELF is no IMAGE", x.undo(), -5);
            due("count(5)", x.count(5), 2);
            network(x, "1.0- 1.0-");
            x.image();
            for (int i = 0; i < 3; i++) {
                x.points(5);
                due("undo(), THE IMAGE is there still", x.undo(), 2);
                x.back();
                due("undo() behind back()", x.undo(), 2);
            }
        });
    }

    private static void bodies() {
        sentence("ACTS of a POINT with x (an int that wraps): 0 asks, 1 says, 2 tells; i its number, m its WEIGHT.", x -> {
            due("act(2, 0, MOST)", x.act(2, 0, MOST), LEAST + 1);
            due("act(2, 2, MOST)", x.act(2, 2, MOST), LEAST + 3);
            due("act(2, 1, MOST)", x.act(2, 1, MOST), LEAST);
            due("act(2, 3, 5)", x.act(2, 3, 5), 0);
            due("act(2, -1, 5)", x.act(2, -1, 5), 0);
            due("act(3, 0, 5)", x.act(3, 0, 5), 0);
            due("act(-1, 0, 5)", x.act(-1, 0, 5), 0);
            x.kind(2, 4);
            x.weight(2, 3);
            due("act(2, 2, LEAST), twice it is 0", x.act(2, 2, LEAST), 8 - 3);
            due("act(2, 0, LEAST - 2), the least is its own less", x.act(2, 0, (LEAST ^ 6) - 2), LEAST);
        });
        sentence("TINTED (an interface of POINT): 1 tells: x + 4.", x -> {
            due("act(0, 2, 10)", x.act(0, 2, 10), 14);
            traced(x, 1);
        });
        sentence("POINT: 10 asks: x + i. 11 says: tells(x) - asks(1).", x -> {
            due("act(2, 0, 10)", x.act(2, 0, 10), 12);
            traced(x, 10);
            due("act(2, 1, 10)", x.act(2, 1, 10), 11);
            traced(x, 11, 1, 10);
        });
        sentence("OPEN: 20 asks: super.asks(x) ^ 6.", x -> {
            x.kind(2, 1);
            due("act(2, 0, 10)", x.act(2, 0, 10), 12 ^ 6);
            traced(x, 20, 10);
            due("act(2, 1, 10)", x.act(2, 1, 10), 14 - (3 ^ 6));
            traced(x, 11, 1, 20, 10);
            due("act(2, 2, 10)", x.act(2, 2, 10), 14);
            traced(x, 1);
        });
        sentence("SHUT: 30 tells: super.tells(x) * 2.", x -> {
            x.kind(2, 2);
            due("act(2, 2, 10)", x.act(2, 2, 10), 28);
            traced(x, 30, 1);
            due("act(2, 1, 10)", x.act(2, 1, 10), 28 - (3 ^ 6));
            traced(x, 11, 30, 1, 20, 10);
            due("act(2, 0, 10)", x.act(2, 0, 10), 12 ^ 6);
            traced(x, 20, 10);
        });
        sentence("BARE: 40 says: super.says(x + 1).", x -> {
            x.kind(2, 3);
            due("act(2, 1, 10)", x.act(2, 1, 10), 15 - 3);
            traced(x, 40, 11, 1, 10);
            due("act(2, 0, 10)", x.act(2, 0, 10), 12);
            traced(x, 10);
            due("act(2, 1, MOST)", x.act(2, 1, MOST), LEAST + 4 - 3);
        });
        sentence("DEEP: 50 tells: super.tells(x) - m. 51 asks: -super.asks(x).", x -> {
            x.kind(2, 4);
            x.weight(2, 4);
            due("act(2, 2, 10)", x.act(2, 2, 10), 28 - 4);
            traced(x, 50, 30, 1);
            due("act(2, 0, 10)", x.act(2, 0, 10), -(12 ^ 6));
            traced(x, 51, 20, 10);
            due("act(2, 1, 10)", x.act(2, 1, 10), 24 + (3 ^ 6));
            traced(x, 11, 50, 30, 1, 51, 20, 10);
        });
        sentence("THE TRACE: numbers of the bodies that ran in the latest act() that was not BAD, as they began; the "
            + "first 24 are kept.", x -> {
            traced(x);
            x.kind(0, 4);
            x.act(0, 1, 3);
            traced(x, 11, 50, 30, 1, 51, 20, 10);
            x.act(1, 2, 3);
            traced(x, 1);
            x.act(0, 9, 3);
            traced(x, 1);
            due("trace(-1)", x.trace(-1), -2);
            due("trace(23)", x.trace(23), -2);
            due("trace(24)", x.trace(24), -2);
            due("trace(MOST)", x.trace(MOST), -2);
            due("trace(LEAST)", x.trace(LEAST), -2);
        });
        sentence("THE TRACE: .. in the latest act() that was not BAD, by undo() too", x -> {
            x.kind(0, 2);
            x.image();
            due("undo()", x.undo(), 3);
            traced(x);
            x.act(0, 2, 5);
            x.points(6);
            due("undo(), act() behind image()", x.undo(), 3);
            traced(x, 30, 1);
            x.image();
            x.act(1, 0, 5);
            x.points(1);
            due("undo(), act() of a POINT that went", x.undo(), 3);
            traced(x, 10);
            x.act(0, 0, 5);
            traced(x, 20, 10);
        });
        sentence("THE TRACE: .. in the latest act() that was not BAD, whatever else is called behind it", x -> {
            x.kind(0, 4);
            x.act(0, 1, 3);
            did(x, "n4;k0,1;w0,2;P0,3;j0,1;u0,1");
            x.keep(0, 0);
            x.points(2);
            x.lay(0);
            x.back();
            x.taken(0, 0);
            x.wipe();
            read(x, "n0");
            x.image();
            traced(x, 11, 50, 30, 1, 51, 20, 10);
        });
    }

    // ---- answers, and what is not read two ways ----

    private static void answers() {
        sentence("of several the first as the call's words name them:", x -> {
            x.keep(1, 0);
            x.points(6);
            due("weight(6, 9), W above 6", x.weight(6, 9), -1);
            due("weight(0, 7), W above 6", x.weight(0, 7), -1);
            due("joined(0, 0), no LINE", x.joined(0, 0), -1);
            due("joined(0, 6), no LINE", x.joined(0, 6), -1);
            due("partition(6, 11, 9)", x.partition(6, 11, 9), -1);
            due("peeled(2) of no TREE", x.peeled(2), -1);
            due("row(4, -2)", x.row(4, -2), -1);
            due("put(4, -1, 1)", x.put(4, -1, 1), -1);
            due("put(0, -1, 1)", x.put(0, -1, 1), -11);
            due("put(1, -1, 1)", x.put(1, -1, 1), -12);
            due("fits(0, 11, 0)", x.fits(0, 11, 0), -1);
            due("fits(0, 10, 2)", x.fits(0, 10, 2), -1);
            due("fits(1, 10, 0)", x.fits(1, 10, 0), -12);
            due("plus(0, 1, 2, 2)", x.plus(0, 1, 2, 2), -1);
            due("plus(0, 1, 4, 0)", x.plus(0, 1, 4, 0), -1);
            due("multiply(0, 1, 4)", x.multiply(0, 1, 4), -1);
            due("taken(6, 4)", x.taken(6, 4), -1);
            for (int i = 0; i < 80; i++) {
                x.feed('n');
            }
            due("feed(31), FULL too", x.feed(31), -1);
        });
        sentence("BAD (-1): no such one, a number out of its range. NOT (-2): there is none. FULL (-3). STATE (-5): as "
            + "told. VOID: the least long.", x -> {
            due("BAD", ColorFunctions.BAD, -1);
            due("NOT", ColorFunctions.NOT, -2);
            due("FULL", ColorFunctions.FULL, -3);
            due("STATE", ColorFunctions.STATE, -5);
            due("VOID", ColorFunctions.VOID, Long.MIN_VALUE);
        });
    }

    private static void twoWays() {
        sentence("Two numbers in a bracket with \"and\" are their sum.", x -> {
            did(x, "n6;S0,5;S1,5;S2,5");
            x.row(0, 0);
            due("fits(0, 0, 1): 10 times 3, and 4", x.fits(0, 0, 1), 34);
        });
        sentence("A single POINT is a TREE (0 rounds, it is the CENTRE).", x -> {
            x.points(1);
            due("count(4)", x.count(4), 1);
            due("peeled(0)", x.peeled(0), 0);
            due("peeled(1)", x.peeled(1), 1);
            did(x, "n2;l0,1;j1,0");
            due("count(4), JOINED to one", x.count(4), 1);
            due("peeled(1), JOINED to one", x.peeled(1), 1);
        });
        sentence("points() makes all as at first but SHELVES, THE TAPE, WHY, THE IMAGE, THE TRACE;", x -> {
            did(x, "n4;w0,3;k1,4;P0,3");
            x.image();
            x.keep(0, 0);
            x.keep(1, 1);
            x.row(2, 1);
            x.put(2, 0, 7);
            x.act(1, 2, 5);
            read(x, "n4;x");
            x.feed('n');
            x.feed('2');
            due("points(4)", x.points(4), 4);
            network(x, "1.0- 1.0- 1.0- 1.0-");
            due("like(0)", x.like(0), 0);
            due("weightOf(1)", x.weightOf(1), 6);
            due("get(2, 0)", x.get(2, 0), 7);
            due("count(6)", x.count(6), 2);
            why(x, 1, 3, 3);
            traced(x, 50, 30, 1);
            due("read()", x.read(), 1);
            due("undo()", x.undo(), 4);
            network(x, "3.0-1 1.4-02 1.0-13 1.0-2");
        });
        sentence("STEPS: what points(), .. made otherwise can be taken BACK", x -> {
            did(x, "n4;P0,3;w0,2;k1,1");
            x.points(4);
            due("count(5)", x.count(5), 7);
            due("back()", x.back(), 6);
            network(x, "2.0-1 1.1-02 1.0-13 1.0-2");
            due("back(), of one ahead of points()", x.back(), 5);
            network(x, "2.0-1 1.0-02 1.0-13 1.0-2");
        });
        sentence("more than 6 cannot be.", x -> {
            x.line(0, 1, 1);
            due("points(7)", x.points(7), -1);
            due("points(MOST)", x.points(MOST), -1);
            due("n7", read(x, "n7"), -200);
            network(x, "1.0-1 1.0-0 1.0-");
            due("points(6)", x.points(6), 3);
        });
        sentence("JOINED, weight(): W stays 6 at most.", x -> {
            did(x, "n6;P0,5;j0,1;j0,1;j0,1;j0,1");
            network(x, "5.0-1 1.0-0");
            due("weight(0, 6)", x.weight(0, 6), -5);
            due("weight(1, 2)", x.weight(1, 2), -5);
            due("joined(1, 0)", x.joined(1, 0), 1);
            due("count(2)", x.count(2), 6);
            due("weight(0, 5)", x.weight(0, 5), 6);
            due("weight(0, 6)", x.weight(0, 6), 5);
        });
        sentence("keep() of a FUNCTION is THE FUNCTION of THE NETWORK; what lies on a SHELF stays as it is, whatever THE "
            + "NETWORK becomes.", x -> {
            did(x, "P0,2;k0,2");
            x.keep(0, 0);
            x.keep(1, 1);
            x.film(2);
            did(x, "j0,1;w0,3;k0,3;u0,1");
            partsOf(x, 1, 0, 1, -2, 1);
            partsOf(x, 1, 2, 3, 1, 0);
            due("get(2, 3)", x.get(2, 3), 12);
            x.points(3);
            x.lay(0);
            network(x, "1.2-1 1.0-02 1.0-1");
            did(x, "u0,1;k0,0;w0,2");
            x.lay(0);
            network(x, "1.2-1 1.0-02 1.0-1");
        });
        sentence("plus(), multiply(): the answer lies on the told SHELF, which may be one of the two.", x -> {
            did(x, "P0,2");
            x.keep(0, 1);
            x.keep(1, 1);
            due("plus(0, 1, 0, 0)", x.plus(0, 1, 0, 0), 3);
            partsOf(x, 0, 0, 2, -4, 2);
            partsOf(x, 1, 0, 1, -2, 1);
            due("plus(0, 1, 1, 1)", x.plus(0, 1, 1, 1), 3);
            partsOf(x, 1, 0, 1, -2, 1);
            due("plus(0, 0, 0, 1)", x.plus(0, 0, 0, 1), 3);
            partsOf(x, 0, 0, 0, 0, 0);
            did(x, "n2;l0,1");
            x.keep(0, 1);
            due("multiply(0, 1, 1)", x.multiply(0, 1, 1), 5);
            partsOf(x, 1, 0, 0, 0, -1, 1, 2, -3, 1);
            partsOf(x, 0, 0, -1, 1);
            due("multiply(0, 0, 0)", x.multiply(0, 0, 0), 4);
            partsOf(x, 0, 0, 0, 0, 1, -2, 1);
            x.row(2, 5);
            due("plus(0, 0, 2, 0) on a ROW", x.plus(0, 0, 2, 0), 4);
            due("get(2, 0)", x.get(2, 0), VOID);
        });
        sentence("Numbers on the way are longs that wrap.", x -> {
            x.points(2);
            x.keep(0, 1);
            for (int i = 0; i < 62; i++) {
                x.plus(0, 0, 0, 0);
            }
            partsOf(x, 0, 0, 0, 1L << 62);
            partsOf(x, 0, 1, 1L << 62, VOID);
            partsOf(x, 0, 2, 0, 1L << 62);
            due("plus(0, 0, 1, 0)", x.plus(0, 0, 1, 0), 2);
            partsOf(x, 1, 0, 0, VOID);
            partsOf(x, 1, 1, VOID, 0);
            due("plus(1, 0, 2, 0)", x.plus(1, 0, 2, 0), 2);
            partsOf(x, 2, 0, 0, -(1L << 62));
            due("plus(1, 2, 2, 1)", x.plus(1, 2, 2, 1), 2);
            partsOf(x, 2, 0, 0, -(1L << 62));
            due("multiply(0, 0, 3)", x.multiply(0, 0, 3), 4);
            partsOf(x, 3, 0, 0, 0, 0, 0, 0);
            did(x, "n2;l0,1");
            x.keep(3, 1);
            due("multiply(0, 3, 3)", x.multiply(0, 3, 3), 4);
            partsOf(x, 3, 0, 0, 0, 0, -(1L << 62), 1L << 62);
            partsOf(x, 3, 1, 0, VOID, 0, VOID, 0);
            partsOf(x, 3, 2, 0, 0, 0, VOID, 0);
        });
        sentence("lay() is a STEP, if something is otherwise; a call by which nothing is otherwise is none.", x -> {
            x.points(3);
            x.weight(0, 1);
            x.kind(0, 0);
            x.line(0, 1, 0);
            x.keep(0, 0);
            x.lay(0);
            due("count(5)", x.count(5), 0);
            did(x, "n3;w1,1;k2,0;u0,2");
            due("count(5)", x.count(5), 0);
            did(x, "w0,2;k0,1;l0,1");
            due("count(5)", x.count(5), 3);
            did(x, "w0,2;k0,1;l1,0;P0,1;S0,1");
            due("count(5)", x.count(5), 3);
            x.lay(0);
            due("count(5)", x.count(5), 4);
            x.lay(0);
            due("count(5)", x.count(5), 4);
            x.weight(2, 2);
            x.lay(0);
            x.line(1, 2, 1);
            x.lay(0);
            due("count(5)", x.count(5), 8);
            x.image();
            x.undo();
            x.points(4);
            x.lay(0);
            due("count(5)", x.count(5), 2);
            x.joined(0, 1);
            x.weight(9, 1);
            x.read();
            due("count(5), refused", x.count(5), 2);
        });
        sentence("back() brings THE NETWORK of then.", x -> {
            did(x, "n4;w2,2;k2,3;P0,3");
            x.joined(1, 2);
            x.keep(0, 1);
            due("back()", x.back(), 6);
            network(x, "1.0-1 1.0-02 2.3-13 1.0-2");
            due("weightOf(0), no part of it", x.weightOf(0), 5);
            x.points(1);
            due("back()", x.back(), 6);
            network(x, "1.0-1 1.0-02 2.3-13 1.0-2");
        });
        sentence("undo() leaves SHELVES, THE TAPE, WHY.", x -> {
            x.image();
            did(x, "n4;P0,3;k0,1");
            x.keep(0, 0);
            x.keep(1, 1);
            x.row(2, 2);
            x.put(2, 1, 9);
            read(x, "n4;l0,0");
            x.feed('n');
            x.feed('5');
            due("undo()", x.undo(), 3);
            network(x, "1.0- 1.0- 1.0-");
            due("weightOf(1)", x.weightOf(1), 4);
            due("get(2, 1)", x.get(2, 1), 9);
            due("count(7)", x.count(7), 3);
            why(x, 1, 3, -1);
            due("count(6)", x.count(6), 2);
            due("read()", x.read(), 1);
            due("count(0)", x.count(0), 5);
            due("lay(0)", x.lay(0), 4);
            due("of(0, 0)", x.of(0, 0), 1);
        });
        sentence("THE TAPE is empty behind each call that reads it, by a FAULT and by all that is refused behind its "
            + "text, too.", x -> {
            read(x, "n4");
            due("count(6), done", x.count(6), 0);
            read(x, "n4;x");
            due("count(6), a FAULT", x.count(6), 0);
            read(x, "n4;n0;n5");
            due("count(6), refused", x.count(6), 0);
            due("read()", x.read(), -100);
            read(x, "l0,1;".repeat(16));
            due("feed('n') behind 80 bytes", x.feed('n'), 1);
            due("feed('2')", x.feed('2'), 2);
            due("read()", x.read(), 1);
        });
        sentence("WHY stays till the next read() that is refused.", x -> {
            read(x, "n4;w0,9");
            did(x, "n5");
            x.points(2);
            x.image();
            x.undo();
            x.back();
            x.wipe();
            x.weight(9, 9);
            why(x, 1, 3, -1);
            read(x, "");
            why(x, 0, 0, 0);
        });
        sentence("A number of a TEXT that is out of its range is refused, no FAULT.", x -> {
            String[] acts = {"n0", "n7", "n9", "l0,9", "l9,0", "u9,9", "w0,0", "w0,9", "w9,1", "k0,9", "k9,0", "j9,0",
                "j0,9", "P0,9", "P9,0", "S0,9", "S9,0"};
            for (String act : acts) {
                due(act, read(x, act), -200);
                due(act + " why(2, 1)", x.why(2, 1), -1);
            }
        });
    }

    private static void details() {
        sentence("Where a POINT goes, all POINTS behind it have numbers 1 less, the one it is JOINED to as well.", x -> {
            did(x, "n5;k0,1;k1,2;k2,3;k3,4;l0,1;l1,3;l3,4");
            due("joined(3, 1)", x.joined(3, 1), 4);
            network(x, "1.1-2 1.3- 2.4-03 1.0-2");
        });
        sentence("The set of no LINES counts by the single POINTS.", x -> {
            did(x, "n3;w0,3;w1,2");
            parts(x, 0, 0, 0, 0, 0, 0, 1, 0, 0, 0, 0, 0);
            did(x, "l0,1");
            parts(x, 0, 0, -1, 0, 0, 0, 1, 0, 0, 0, 0, 0);
        });
        sentence("A POINT without LINES has none that leads away.", x -> {
            due("sinks(3)", x.sinks(3), 1);
            due("sinks(0)", x.sinks(0), 0);
            x.line(0, 1, 1);
            due("sinks(1)", x.sinks(1), 0);
            due("sinks(2)", x.sinks(2), 2);
            due("sinks(3)", x.sinks(3), 0);
        });
        sentence("KINDS do not matter for LIKE, and laying what has other KINDS alone is a STEP.", x -> {
            x.keep(0, 0);
            x.kind(2, 4);
            due("like(0)", x.like(0), 1);
            due("lay(0)", x.lay(0), 3);
            network(x, "1.0- 1.0- 1.0-");
            due("count(5)", x.count(5), 2);
            due("back()", x.back(), 1);
            network(x, "1.0- 1.0- 1.4-");
        });
        sentence("Of two SHELVES -11 comes ahead of -12, whichever of them it is of.", x -> {
            x.keep(0, 0);
            x.row(1, 3);
            x.keep(2, 1);
            for (int s = 0; s < 2; s++) {
                due("plus(" + s + ", 3, 2, 0)", x.plus(s, 3, 2, 0), -11);
                due("plus(3, " + s + ", 2, 1)", x.plus(3, s, 2, 1), -11);
                due("multiply(" + s + ", 3, 2)", x.multiply(s, 3, 2), -11);
                due("multiply(3, " + s + ", 2)", x.multiply(3, s, 2), -11);
            }
            due("plus(0, 1, 2, 0)", x.plus(0, 1, 2, 0), -12);
            due("multiply(1, 0, 2)", x.multiply(1, 0, 2), -12);
            due("plus(3, 3, 2, 0)", x.plus(3, 3, 2, 0), -11);
        });
        sentence("What was done ahead of an ACT that is refused stays done, with its STEPS.", x -> {
            due("l0,1;P1,2;k0,3;w0,9;k1,1", read(x, "l0,1;P1,2;k0,3;w0,9;k1,1"), -203);
            network(x, "1.3-1 1.0-02 1.0-1");
            due("count(5)", x.count(5), 3);
            due("back()", x.back(), 2);
            network(x, "1.0-1 1.0-02 1.0-1");
        });
        sentence("Where k is -1, i does not matter.", x -> {
            int[] any = {LEAST, -2, -1, 0, 5, 11, MOST};
            for (int i : any) {
                due("partition(6, -1, " + i + ")", x.partition(6, -1, i), 11);
                due("partition(1, -1, " + i + ")", x.partition(1, -1, i), 1);
                due("partition(7, -1, " + i + ")", x.partition(7, -1, i), -1);
            }
        });
        sentence("By BAD of act() THE TRACE stays.", x -> {
            x.kind(0, 2);
            x.act(0, 2, 5);
            x.act(3, 0, 5);
            traced(x, 30, 1);
            x.act(-1, 1, 5);
            traced(x, 30, 1);
            x.act(0, 3, 5);
            x.act(0, -1, 5);
            traced(x, 30, 1);
        });
    }
}
