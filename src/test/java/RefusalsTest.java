import java.util.function.Consumer;
import java.util.function.ToLongFunction;

/** Each refusal of each promise: its answer, and that all else is as it is without that call. */
public final class RefusalsTest {
    private static final int LEAST = Integer.MIN_VALUE, MOST = Integer.MAX_VALUE;
    private static final long VOID = Long.MIN_VALUE;
    private static final int NETWORK = 0, FUNCTION = 1, ROW = 2, NOTHING = 3;
    private static int wrong = 0;
    private static String part = "";

    public static void main(String[] args) {
        networkCalls();
        askedCalls();
        keepingCalls();
        functionCalls();
        rowCalls();
        tapeCalls();
        otherCalls();
        newObjectCalls();
        System.out.println(wrong == 0 ? "all answers are as due" : wrong + " answers are not as due");
        if (wrong != 0) {
            System.exit(1);
        }
    }

    private static void read(ColorFunctions x, String text) {
        for (int i = 0; i < text.length(); i++) {
            x.feed(text.charAt(i));
        }
        x.read();
    }

    /** Something of all that there is: STEPS, an IMAGE, a SHELF of each sort, WHY, THE TRACE, THE TAPE. */
    private static void prepare(ColorFunctions x) {
        read(x, "n4;w1,2;P0,2");
        x.image();
        x.keep(NETWORK, 0);
        x.keep(FUNCTION, 1);
        x.row(ROW, 5);
        x.put(ROW, 0, 3);
        x.put(ROW, 4, VOID + 1);
        read(x, "k0,4;l0,2;q");
        read(x, "k0,4;l0,2");
        x.act(0, 1, 9);
        x.feed('n');
        x.feed('2');
    }

    private static void refused(String call, ToLongFunction<ColorFunctions> made, long want) {
        refused(call, RefusalsTest::prepare, made, want);
    }

    private static void refused(String call, Consumer<ColorFunctions> ahead, ToLongFunction<ColorFunctions> made, long want) {
        ColorFunctions x = new ColorFunctions();
        ColorFunctions twin = new ColorFunctions();
        ahead.accept(x);
        ahead.accept(twin);
        long got = made.applyAsLong(x);
        if (got != want) {
            wrong++;
            System.out.println(part + ": " + call + " answered " + got + ", due is " + want);
        }
        same(call, all(x), all(twin));
        while (twin.count(5) > 0) {
            same(call + ", back()", "" + x.back(), "" + twin.back());
            same(call + ", THE NETWORK of then", network(x), network(twin));
        }
        same(call + ", undo()", "" + x.undo(), "" + twin.undo());
        same(call + ", THE IMAGE", network(x), network(twin));
        same(call + ", read()", "" + x.read(), "" + twin.read());
        same(call + ", behind the text", network(x), network(twin));
    }

    private static void same(String call, String got, String want) {
        if (!got.equals(want)) {
            wrong++;
            System.out.println(part + ": " + call + " left " + got + ", due is " + want);
        }
    }

    private static String network(ColorFunctions x) {
        StringBuilder told = new StringBuilder();
        for (int i = 0; i < x.count(0); i++) {
            told.append(x.of(i, 1)).append('.').append(x.of(i, 0)).append('.').append(x.of(i, 3)).append(' ');
        }
        return told.toString();
    }

    /** All that can be asked without a change. */
    private static String all(ColorFunctions x) {
        StringBuilder told = new StringBuilder(network(x));
        for (int what = 0; what < 8; what++) {
            told.append(x.count(what)).append(' ');
        }
        for (int i = 0; i < 3; i++) {
            told.append(x.why(i, 1)).append(' ');
        }
        for (int i = 0; i < 8; i++) {
            told.append(x.trace(i)).append(' ');
        }
        for (int s = 0; s < 4; s++) {
            told.append("/ ").append(x.like(s)).append(' ').append(x.weightOf(s)).append(' ');
            for (int k = 0; k < 7; k++) {
                told.append(x.partOf(s, 0, k)).append(' ');
            }
            for (int i = 0; i < 6; i++) {
                told.append(x.get(s, i)).append(' ');
            }
        }
        return told.toString();
    }

    private static void networkCalls() {
        int[] noPoints = {-1, 4, 6, LEAST, MOST};
        part = "2 points";
        int[] noCounts = {0, 7, -1, LEAST, MOST};
        for (int n : noCounts) {
            refused("points(" + n + ")", x -> x.points(n), -1);
        }
        part = "3 weight";
        int[] noWeights = {0, 7, -1, LEAST, MOST};
        for (int p : noPoints) {
            refused("weight(" + p + ", 1)", x -> x.weight(p, 1), -1);
        }
        for (int v : noWeights) {
            refused("weight(0, " + v + ")", x -> x.weight(0, v), -1);
        }
        refused("weight(0, 3), W above 6", x -> x.weight(0, 3), -5);
        refused("weight(1, 4), W above 6", x -> x.weight(1, 4), -5);
        refused("weight(3, 6), W above 6", x -> x.weight(3, 6), -5);
        part = "4 kind";
        int[] noKinds = {-1, 5, LEAST, MOST};
        for (int p : noPoints) {
            refused("kind(" + p + ", 1)", x -> x.kind(p, 1), -1);
        }
        for (int k : noKinds) {
            refused("kind(0, " + k + ")", x -> x.kind(0, k), -1);
        }
        part = "5 line";
        int[] noLines = {-1, 2, LEAST, MOST};
        for (int p : noPoints) {
            refused("line(" + p + ", 0, 1)", x -> x.line(p, 0, 1), -1);
            refused("line(0, " + p + ", 1)", x -> x.line(0, p, 1), -1);
            refused("line(" + p + ", " + p + ", 0)", x -> x.line(p, p, 0), -1);
        }
        for (int is : noLines) {
            refused("line(0, 1, " + is + ")", x -> x.line(0, 1, is), -1);
            refused("line(0, 3, " + is + ")", x -> x.line(0, 3, is), -1);
        }
        for (int p = 0; p < 4; p++) {
            int a = p;
            refused("line(a, a, 1)", x -> x.line(a, a, 1), -1);
            refused("line(a, a, 0)", x -> x.line(a, a, 0), -1);
        }
        part = "6 joined";
        for (int p : noPoints) {
            refused("joined(" + p + ", 0)", x -> x.joined(p, 0), -1);
            refused("joined(0, " + p + ")", x -> x.joined(0, p), -1);
        }
        for (int p = 0; p < 4; p++) {
            int a = p;
            refused("joined(a, a)", x -> x.joined(a, a), -1);
        }
        for (int p = 0; p < 3; p++) {
            int a = p;
            refused("joined(a, 3), no LINE", x -> x.joined(a, 3), -5);
            refused("joined(3, a), no LINE", x -> x.joined(3, a), -5);
        }
        part = "7 of";
        int[] noWhats = {-1, 5, LEAST, MOST};
        for (int p : noPoints) {
            refused("of(" + p + ", 0)", x -> x.of(p, 0), -1);
            refused("of(" + p + ", 4)", x -> x.of(p, 4), -1);
        }
        for (int what : noWhats) {
            refused("of(0, " + what + ")", x -> x.of(0, what), -1);
        }
    }

    private static void askedCalls() {
        part = "8 partition";
        int[] noSums = {0, 7, -1, LEAST, MOST};
        for (int w : noSums) {
            refused("partition(" + w + ", 0, 0)", x -> x.partition(w, 0, 0), -1);
            refused("partition(" + w + ", -1, 0)", x -> x.partition(w, -1, 0), -1);
        }
        int[] many = {1, 2, 3, 5, 7, 11};
        for (int w = 1; w <= 6; w++) {
            int[] noPartitions = {-2, many[w - 1], LEAST, MOST};
            int sum = w;
            for (int k : noPartitions) {
                refused("partition(" + w + ", " + k + ", 0)", x -> x.partition(sum, k, 0), -1);
                refused("partition(" + w + ", " + k + ", -1)", x -> x.partition(sum, k, -1), -1);
            }
            int last = many[w - 1] - 1;
            refused("partition(w, 0, 1)", x -> x.partition(sum, 0, 1), -2);
            refused("partition(w, last, w)", x -> x.partition(sum, last, sum), -2);
            refused("partition(w, last, MOST)", x -> x.partition(sum, last, MOST), -2);
            refused("partition(w, last, -2)", x -> x.partition(sum, last, -2), -1);
            refused("partition(w, 0, LEAST)", x -> x.partition(sum, 0, LEAST), -1);
        }
        part = "9 part";
        int[] noBases = {-1, 3, LEAST, MOST};
        for (int basis : noBases) {
            refused("part(" + basis + ", 0)", x -> x.part(basis, 0), VOID);
        }
        int[] noParts = {-1, 7, 11, LEAST, MOST};
        for (int b = 0; b < 3; b++) {
            int basis = b;
            for (int k : noParts) {
                refused("part(" + basis + ", " + k + ")", x -> x.part(basis, k), VOID);
            }
        }
        part = "10 colorings";
        int[] noColours = {-1, 10, LEAST, MOST};
        for (int k : noColours) {
            refused("colorings(" + k + ")", x -> x.colorings(k), VOID);
        }
        part = "11 sinks";
        int[] noSinks = {-1, 5, LEAST, MOST};
        for (int j : noSinks) {
            refused("sinks(" + j + ")", x -> x.sinks(j), -1);
        }
        part = "12 peeled";
        int[] noWhats = {-1, 2, LEAST, MOST};
        for (int what : noWhats) {
            refused("peeled(" + what + ")", x -> x.peeled(what), -1);
        }
        refused("peeled(0), no TREE", x -> x.peeled(0), -5);
        refused("peeled(1), no TREE", x -> x.peeled(1), -5);
    }

    private static final int[] NO_SHELVES = {-1, 4, LEAST, MOST};

    private static void keepingCalls() {
        part = "13 keep";
        int[] noWhats = {-1, 2, LEAST, MOST};
        for (int s : NO_SHELVES) {
            refused("keep(" + s + ", 0)", x -> x.keep(s, 0), -1);
            refused("keep(" + s + ", 1)", x -> x.keep(s, 1), -1);
        }
        for (int what : noWhats) {
            for (int s = 0; s < 4; s++) {
                int shelf = s;
                refused("keep(" + s + ", " + what + ")", x -> x.keep(shelf, what), -1);
            }
        }
        onShelves("14 lay", ColorFunctions::lay, NETWORK);
        onShelves("15 like", ColorFunctions::like, NETWORK);
        onShelves("16 same", ColorFunctions::same, FUNCTION);
        onShelves("17 weightOf", ColorFunctions::weightOf, FUNCTION);
        onShelves("26 judge", ColorFunctions::judge, ROW);
        part = "18 partOf";
        for (int s : NO_SHELVES) {
            refused("partOf(" + s + ", 0, 0)", x -> x.partOf(s, 0, 0), VOID);
        }
        int[] others = {NETWORK, ROW, NOTHING};
        for (int s : others) {
            for (int b = 0; b < 3; b++) {
                int basis = b;
                refused("partOf(" + s + ", " + basis + ", 0)", x -> x.partOf(s, basis, 0), VOID);
            }
        }
        int[] noBases = {-1, 3, LEAST, MOST};
        for (int basis : noBases) {
            refused("partOf(1, " + basis + ", 0)", x -> x.partOf(FUNCTION, basis, 0), VOID);
        }
        int[] noParts = {-1, 7, 11, LEAST, MOST};
        for (int k : noParts) {
            for (int b = 0; b < 3; b++) {
                int basis = b;
                refused("partOf(1, " + basis + ", " + k + ")", x -> x.partOf(FUNCTION, basis, k), VOID);
            }
        }
    }

    private interface OnShelf {
        long answer(ColorFunctions x, int shelf);
    }

    private static void onShelves(String promise, OnShelf call, int due) {
        part = promise;
        for (int s : NO_SHELVES) {
            refused("of shelf " + s, x -> call.answer(x, s), -1);
        }
        for (int s = 0; s < 3; s++) {
            int shelf = s;
            if (s != due) {
                refused("of shelf " + s, x -> call.answer(x, shelf), -12);
            }
        }
        refused("of shelf 3", x -> call.answer(x, NOTHING), -11);
    }

    private static void functionCalls() {
        int[] noSigns = {-1, 2, LEAST, MOST};
        part = "19 plus";
        for (int s : NO_SHELVES) {
            refused("plus(" + s + ", 1, 1, 0)", x -> x.plus(s, 1, 1, 0), -1);
            refused("plus(1, " + s + ", 1, 0)", x -> x.plus(1, s, 1, 0), -1);
            refused("plus(1, 1, " + s + ", 0)", x -> x.plus(1, 1, s, 0), -1);
            refused("plus(" + s + ", 3, 0, 0), BAD ahead of -11", x -> x.plus(s, 3, 0, 0), -1);
            refused("plus(3, 0, " + s + ", 0), BAD ahead of -11", x -> x.plus(3, 0, s, 0), -1);
        }
        for (int sign : noSigns) {
            refused("plus(1, 1, 1, " + sign + ")", x -> x.plus(1, 1, 1, sign), -1);
            refused("plus(3, 0, 1, " + sign + "), BAD ahead of -11", x -> x.plus(3, 0, 1, sign), -1);
        }
        for (int g = 0; g < 4; g++) {
            int to = g;
            refused("plus(3, 1, " + to + ", 0)", x -> x.plus(3, 1, to, 0), -11);
            refused("plus(1, 3, " + to + ", 0)", x -> x.plus(1, 3, to, 0), -11);
            refused("plus(3, 0, " + to + ", 1)", x -> x.plus(3, 0, to, 1), -11);
            refused("plus(2, 3, " + to + ", 1)", x -> x.plus(2, 3, to, 1), -11);
            refused("plus(3, 3, " + to + ", 1)", x -> x.plus(3, 3, to, 1), -11);
            refused("plus(0, 1, " + to + ", 0)", x -> x.plus(0, 1, to, 0), -12);
            refused("plus(1, 2, " + to + ", 0)", x -> x.plus(1, 2, to, 0), -12);
            refused("plus(0, 2, " + to + ", 0)", x -> x.plus(0, 2, to, 0), -12);
            refused("plus(0, 0, " + to + ", 0)", x -> x.plus(0, 0, to, 0), -12);
            refused("plus(1, 3, " + to + ", 0), W's not the same", RefusalsTest::prepareTwo, x -> x.plus(1, 3, to, 0), -5);
            refused("plus(3, 1, " + to + ", 1), W's not the same", RefusalsTest::prepareTwo, x -> x.plus(3, 1, to, 1), -5);
        }
        part = "20 multiply";
        for (int s : NO_SHELVES) {
            refused("multiply(" + s + ", 1, 1)", x -> x.multiply(s, 1, 1), -1);
            refused("multiply(1, " + s + ", 1)", x -> x.multiply(1, s, 1), -1);
            refused("multiply(1, 1, " + s + ")", x -> x.multiply(1, 1, s), -1);
            refused("multiply(" + s + ", 3, 0), BAD ahead of -11", x -> x.multiply(s, 3, 0), -1);
            refused("multiply(3, 0, " + s + "), BAD ahead of -11", x -> x.multiply(3, 0, s), -1);
        }
        for (int g = 0; g < 4; g++) {
            int to = g;
            refused("multiply(3, 1, " + to + ")", x -> x.multiply(3, 1, to), -11);
            refused("multiply(1, 3, " + to + ")", x -> x.multiply(1, 3, to), -11);
            refused("multiply(3, 0, " + to + ")", x -> x.multiply(3, 0, to), -11);
            refused("multiply(2, 3, " + to + ")", x -> x.multiply(2, 3, to), -11);
            refused("multiply(0, 1, " + to + ")", x -> x.multiply(0, 1, to), -12);
            refused("multiply(1, 2, " + to + ")", x -> x.multiply(1, 2, to), -12);
            refused("multiply(2, 2, " + to + ")", x -> x.multiply(2, 2, to), -12);
            refused("multiply(1, 1, " + to + "), W above 6", x -> x.multiply(1, 1, to), -5);
            refused("multiply(1, 3, " + to + "), W 7", RefusalsTest::prepareTwo, x -> x.multiply(1, 3, to), -5);
            refused("multiply(3, 1, " + to + "), W 7", RefusalsTest::prepareTwo, x -> x.multiply(3, 1, to), -5);
        }
    }

    /** A second FUNCTION, of another W, where nothing lay. */
    private static void prepareTwo(ColorFunctions x) {
        x.points(2);
        x.line(0, 1, 1);
        x.keep(NOTHING, 1);
        prepare(x);
    }

    private static void rowCalls() {
        part = "21 row";
        int[] noLengths = {41, MOST};
        int[] sizesBelow = {-2, -3, LEAST};
        for (int s : NO_SHELVES) {
            refused("row(" + s + ", 3)", x -> x.row(s, 3), -1);
            refused("row(" + s + ", -1)", x -> x.row(s, -1), -1);
            refused("row(" + s + ", -2)", x -> x.row(s, -2), -1);
        }
        for (int s = 0; s < 4; s++) {
            int shelf = s;
            for (int n : noLengths) {
                refused("row(" + s + ", " + n + ")", x -> x.row(shelf, n), -1);
            }
            for (int n : sizesBelow) {
                refused("row(" + s + ", " + n + ")", x -> x.row(shelf, n), -14);
            }
        }
        int[] noPlaces = {-1, 5, 39, 40, LEAST, MOST};
        part = "22 put";
        onShelves("22 put", (x, s) -> x.put(s, 0, 1), ROW);
        onShelves("22 put, no place", (x, s) -> x.put(s, -1, 1), ROW);
        for (int i : noPlaces) {
            refused("put(2, " + i + ", 1)", x -> x.put(ROW, i, 1), -13);
        }
        part = "23 get";
        for (int s : NO_SHELVES) {
            refused("get(" + s + ", 0)", x -> x.get(s, 0), VOID);
        }
        int[] others = {NETWORK, FUNCTION, NOTHING};
        for (int s : others) {
            refused("get(" + s + ", 0)", x -> x.get(s, 0), VOID);
        }
        for (int i : noPlaces) {
            refused("get(2, " + i + ")", x -> x.get(ROW, i), VOID);
        }
        part = "24 film";
        for (int s : NO_SHELVES) {
            refused("film(" + s + ")", x -> x.film(s), -1);
        }
        onShelves("25 fits", (x, s) -> x.fits(s, 3, 0), ROW);
        onShelves("25 fits, more places than there are", (x, s) -> x.fits(s, 10, 1), ROW);
        int[] noPlacesToFit = {-1, 11, LEAST, MOST};
        int[] noWhats = {-1, 2, LEAST, MOST};
        part = "25 fits";
        for (int s = 0; s < 4; s++) {
            int shelf = s;
            for (int m : noPlacesToFit) {
                refused("fits(" + s + ", " + m + ", 0)", x -> x.fits(shelf, m, 0), -1);
            }
            for (int what : noWhats) {
                refused("fits(" + s + ", 3, " + what + ")", x -> x.fits(shelf, 3, what), -1);
            }
        }
        for (int m = 6; m <= 10; m++) {
            int places = m;
            refused("fits(2, " + m + ", 0)", x -> x.fits(ROW, places, 0), -13);
            refused("fits(2, " + m + ", 1)", x -> x.fits(ROW, places, 1), -13);
        }
        refused("fits(2, 5, 1)", x -> x.fits(ROW, 5, 1), -2);
    }

    private static void tapeCalls() {
        part = "28 feed";
        int[] noBytes = {31, 127, 0, -1, 128, 256 + 'n', LEAST, MOST};
        for (int letter : noBytes) {
            refused("feed(" + letter + ")", x -> x.feed(letter), -1);
        }
        refused("feed('n'), FULL", RefusalsTest::fill, x -> x.feed('n'), -3);
        refused("feed(32), FULL", RefusalsTest::fill, x -> x.feed(32), -3);
        refused("feed(126), FULL", RefusalsTest::fill, x -> x.feed(126), -3);
        refused("feed(31), FULL", RefusalsTest::fill, x -> x.feed(31), -1);
        part = "31 why";
        int[] noTroubles = {-1, 3, LEAST, MOST};
        int[] noWhats = {-1, 2, LEAST, MOST};
        for (int i : noTroubles) {
            refused("why(" + i + ", 0)", x -> x.why(i, 0), VOID);
            refused("why(" + i + ", 1)", x -> x.why(i, 1), VOID);
        }
        for (int what : noWhats) {
            refused("why(0, " + what + ")", x -> x.why(0, what), VOID);
            refused("why(2, " + what + ")", x -> x.why(2, what), VOID);
        }
    }

    /** THE TAPE holds 80 bytes, a text of 27 ACTS. */
    private static void fill(ColorFunctions x) {
        prepare(x);
        x.wipe();
        String text = "n1;".repeat(26) + "n2";
        for (int i = 0; i < text.length(); i++) {
            x.feed(text.charAt(i));
        }
    }

    private static void otherCalls() {
        int[] noPoints = {-1, 4, LEAST, MOST};
        part = "32 act";
        int[] noActs = {-1, 3, LEAST, MOST};
        for (int p : noPoints) {
            for (int a = 0; a < 3; a++) {
                int act = a;
                refused("act(" + p + ", " + a + ", 5)", x -> x.act(p, act, 5), 0);
            }
        }
        for (int act : noActs) {
            refused("act(0, " + act + ", 5)", x -> x.act(0, act, 5), 0);
            refused("act(1, " + act + ", 5)", x -> x.act(1, act, 5), 0);
        }
        part = "33 trace";
        int[] noBodies = {-1, 7, 8, 23, 24, LEAST, MOST};
        for (int i : noBodies) {
            refused("trace(" + i + ")", x -> x.trace(i), -2);
        }
        part = "34 taken";
        int[] noKinds = {-1, 5, LEAST, MOST};
        for (int p : noPoints) {
            refused("taken(" + p + ", 0)", x -> x.taken(p, 0), -1);
        }
        for (int k : noKinds) {
            refused("taken(0, " + k + ")", x -> x.taken(0, k), -1);
        }
        refused("taken(0, 3) of DEEP", x -> x.taken(0, 3), -5);
        for (int k = 1; k < 5; k++) {
            int kind = k;
            refused("taken(1, " + k + ") of POINT", x -> x.taken(1, kind), -5);
        }
        part = "37 count";
        int[] noCounts = {-1, 8, LEAST, MOST};
        for (int what : noCounts) {
            refused("count(" + what + ")", x -> x.count(what), -1);
        }
    }

    private static void newObjectCalls() {
        Consumer<ColorFunctions> nothing = x -> { };
        part = "27 back";
        refused("back(), no STEP", nothing, ColorFunctions::back, -5);
        part = "29 wipe";
        refused("wipe(), nothing there", nothing, ColorFunctions::wipe, 0);
        part = "31 why";
        refused("why(0, 0), none", nothing, x -> x.why(0, 0), VOID);
        refused("why(2, 1), none", nothing, x -> x.why(2, 1), VOID);
        part = "33 trace";
        refused("trace(0), none", nothing, x -> x.trace(0), -2);
        part = "36 undo";
        refused("undo(), no IMAGE", nothing, ColorFunctions::undo, -5);
        refused("undo(), no IMAGE, STEPS", x -> x.line(0, 1, 1), ColorFunctions::undo, -5);
    }
}
