/** For each promise its ordinary inputs, the edges that the document names, and wrong inputs. */
public final class PromisesTest {
    private static int wrong = 0;
    private static String part = "";

    private static void due(String call, long got, long want) {
        if (got != want) {
            wrong++;
            System.out.println(part + ": " + call + " answered " + got + ", due is " + want);
        }
    }

    private static final int LEAST = Integer.MIN_VALUE, MOST = Integer.MAX_VALUE;
    private static final long VOID = Long.MIN_VALUE;

    /** Feeds a text and reads it. */
    private static int read(ColorFunctions x, String text) {
        for (int i = 0; i < text.length(); i++) {
            x.feed(text.charAt(i));
        }
        return x.read();
    }

    private static ColorFunctions after(String text) {
        ColorFunctions x = new ColorFunctions();
        int answer = read(x, text);
        if (answer < 0) {
            due("the text " + text, answer, 0);
        }
        return x;
    }

    private static void why(ColorFunctions x, long ahead, long begin, long end) {
        due("why(0, 0)", x.why(0, 0), 1);
        due("why(0, 1)", x.why(0, 1), ahead);
        due("why(1, 0)", x.why(1, 0), 2);
        due("why(1, 1)", x.why(1, 1), begin);
        due("why(2, 0)", x.why(2, 0), 3);
        due("why(2, 1)", x.why(2, 1), end);
    }

    public static void main(String[] args) {
        newObject();
        points();
        weight();
        kind();
        line();
        joined();
        of();
        partition();
        part();
        colorings();
        sinks();
        peeled();
        keep();
        lay();
        like();
        same();
        weightOf();
        partOf();
        plus();
        multiply();
        row();
        put();
        get();
        film();
        fits();
        judge();
        back();
        feed();
        wipe();
        read();
        readFaults();
        readRefused();
        why();
        act();
        trace();
        taken();
        image();
        undo();
        count();
        System.out.println(wrong == 0 ? "all answers are as due" : wrong + " answers are not as due");
        if (wrong != 0) {
            System.exit(1);
        }
    }

    private static void newObject() {
        part = "1 a new object";
        ColorFunctions x = new ColorFunctions();
        int[] counts = {3, 0, 3, 3, 0, 0, 0, 0};
        for (int i = 0; i < counts.length; i++) {
            due("count(" + i + ")", x.count(i), counts[i]);
        }
        for (int i = 0; i < 3; i++) {
            due("of(i, 0)", x.of(i, 0), 0);
            due("of(i, 1)", x.of(i, 1), 1);
            due("of(i, 3)", x.of(i, 3), 0);
        }
        due("trace(0)", x.trace(0), -2);
        due("why(0, 1)", x.why(0, 1), VOID);
        due("undo()", x.undo(), -5);
        due("back()", x.back(), -5);
        due("get(0, 0)", x.get(0, 0), VOID);
        due("BAD", ColorFunctions.BAD, -1);
        due("NOT", ColorFunctions.NOT, -2);
        due("FULL", ColorFunctions.FULL, -3);
        due("STATE", ColorFunctions.STATE, -5);
        due("VOID", ColorFunctions.VOID, VOID);
        ColorFunctions y = new ColorFunctions();
        x.points(6);
        due("points of another object", y.count(0), 3);
    }

    private static void points() {
        part = "2 points";
        ColorFunctions x = after("l0,1;w1,3;k2,4");
        x.keep(0, 0);
        x.image();
        x.act(0, 0, 0);
        x.feed('n');
        due("points(0)", x.points(0), -1);
        due("points(7)", x.points(7), -1);
        due("points(-1)", x.points(-1), -1);
        due("points(LEAST)", x.points(LEAST), -1);
        due("points(MOST)", x.points(MOST), -1);
        due("count(1)", x.count(1), 1);
        due("points(6)", x.points(6), 3);
        due("points(6) again", x.points(6), 6);
        due("count(5)", x.count(5), 4);
        due("count(0)", x.count(0), 6);
        due("count(1)", x.count(1), 0);
        due("count(2)", x.count(2), 6);
        due("of(2, 0)", x.of(2, 0), 0);
        due("count(6)", x.count(6), 1);
        due("count(7)", x.count(7), 1);
        due("trace(0)", x.trace(0), 10);
        due("points(1)", x.points(1), 6);
        due("points(3)", x.points(3), 1);
        due("of(1, 1)", x.of(1, 1), 1);
        due("undo()", x.undo(), 3);
        due("of(1, 1)", x.of(1, 1), 3);
        String[] acts = {"w0,2", "k0,1", "l0,1", "w2,2", "k2,1", "l1,2"};
        for (String act : acts) {
            ColorFunctions y = after(act);
            due("points(3) behind " + act, y.points(3), 3);
            due("count(5) behind " + act, y.count(5), 2);
            due("count(2) behind " + act, y.count(2), 3);
            due("count(1) behind " + act, y.count(1), 0);
            due("of(0, 0) behind " + act, y.of(0, 0), 0);
            due("of(2, 0) behind " + act, y.of(2, 0), 0);
            y.points(3);
            due("back() behind " + act, y.back(), 1);
        }
        read(x, "x");
        x.points(2);
        due("why(0, 0)", x.why(0, 0), 1);
    }

    private static void weight() {
        part = "3 weight";
        ColorFunctions x = new ColorFunctions();
        due("weight(0, 2)", x.weight(0, 2), 1);
        due("weight(0, 4)", x.weight(0, 4), 2);
        due("weight(1, 2)", x.weight(1, 2), -5);
        due("weight(0, 5)", x.weight(0, 5), -5);
        due("weight(0, 4)", x.weight(0, 4), 4);
        due("of(1, 1)", x.of(1, 1), 1);
        due("count(2)", x.count(2), 6);
        due("count(5)", x.count(5), 2);
        due("weight(0, 0)", x.weight(0, 0), -1);
        due("weight(0, 7)", x.weight(0, 7), -1);
        due("weight(3, 1)", x.weight(3, 1), -1);
        due("weight(-1, 1)", x.weight(-1, 1), -1);
        due("weight(LEAST, LEAST)", x.weight(LEAST, LEAST), -1);
        due("weight(0, MOST)", x.weight(0, MOST), -1);
        x.points(1);
        due("weight(0, 6)", x.weight(0, 6), 1);
        due("of(0, 1)", x.of(0, 1), 6);
    }

    private static void kind() {
        part = "4 kind";
        ColorFunctions x = new ColorFunctions();
        due("kind(2, 4)", x.kind(2, 4), 0);
        due("kind(2, 1)", x.kind(2, 1), 4);
        due("kind(2, 1)", x.kind(2, 1), 1);
        due("of(2, 0)", x.of(2, 0), 1);
        due("count(5)", x.count(5), 2);
        due("kind(2, 5)", x.kind(2, 5), -1);
        due("kind(2, -1)", x.kind(2, -1), -1);
        due("kind(3, 0)", x.kind(3, 0), -1);
        due("kind(-1, 0)", x.kind(-1, 0), -1);
        due("of(2, 0)", x.of(2, 0), 1);
    }

    private static void line() {
        part = "5 line";
        ColorFunctions x = new ColorFunctions();
        due("line(2, 0, 1)", x.line(2, 0, 1), 0);
        due("line(0, 2, 1)", x.line(0, 2, 1), 1);
        due("of(0, 3)", x.of(0, 3), 4);
        due("of(2, 3)", x.of(2, 3), 1);
        due("count(5)", x.count(5), 1);
        due("line(0, 2, 0)", x.line(0, 2, 0), 1);
        due("line(2, 0, 0)", x.line(2, 0, 0), 0);
        due("count(1)", x.count(1), 0);
        due("count(5)", x.count(5), 2);
        due("line(1, 1, 1)", x.line(1, 1, 1), -1);
        due("line(0, 3, 1)", x.line(0, 3, 1), -1);
        due("line(3, 0, 1)", x.line(3, 0, 1), -1);
        due("line(-1, 0, 1)", x.line(-1, 0, 1), -1);
        due("line(0, -1, 1)", x.line(0, -1, 1), -1);
        due("line(0, 1, 2)", x.line(0, 1, 2), -1);
        due("line(0, 1, -1)", x.line(0, 1, -1), -1);
        due("line(MOST, LEAST, 1)", x.line(MOST, LEAST, 1), -1);
        due("count(1)", x.count(1), 0);
    }

    private static void joined() {
        part = "6 joined";
        ColorFunctions x = after("n5;l0,1;l1,2;l2,3;l3,4;l0,4;w1,2;k1,2;k3,1");
        due("joined(1, 1)", x.joined(1, 1), -1);
        due("joined(1, 5)", x.joined(1, 5), -1);
        due("joined(-1, 1)", x.joined(-1, 1), -1);
        due("joined(1, 3)", x.joined(1, 3), -5);
        due("joined(1, 2)", x.joined(1, 2), 4);
        due("of(1, 1)", x.of(1, 1), 3);
        due("of(1, 0)", x.of(1, 0), 2);
        due("of(1, 3)", x.of(1, 3), 5);
        due("of(2, 0)", x.of(2, 0), 1);
        due("of(2, 3)", x.of(2, 3), 10);
        due("of(3, 3)", x.of(3, 3), 5);
        due("count(2)", x.count(2), 6);
        part = "6 joined: to the one behind";
        x = after("n4;l0,1;l0,2;l2,3;k2,3;k0,1");
        due("joined(2, 0)", x.joined(2, 0), 3);
        due("of(1, 0)", x.of(1, 0), 3);
        due("of(1, 1)", x.of(1, 1), 2);
        due("of(1, 3)", x.of(1, 3), 5);
        due("of(0, 3)", x.of(0, 3), 2);
        due("count(1)", x.count(1), 2);
        part = "6 joined: a NEIGHBOUR of both";
        x = after("l0,1;l0,2;l1,2");
        due("joined(0, 1)", x.joined(0, 1), 2);
        due("count(1)", x.count(1), 1);
        due("joined(1, 0)", x.joined(1, 0), 1);
        due("of(0, 1)", x.of(0, 1), 3);
        due("of(0, 3)", x.of(0, 3), 0);
        due("count(5)", x.count(5), 5);
    }

    private static void of() {
        part = "7 of";
        ColorFunctions x = after("n6;l0,4;l4,2;l1,5;w3,1;k4,3");
        due("of(4, 0)", x.of(4, 0), 3);
        due("of(4, 1)", x.of(4, 1), 1);
        due("of(4, 2)", x.of(4, 2), 2);
        due("of(4, 3)", x.of(4, 3), 5);
        due("of(0, 4)", x.of(0, 4), 21);
        due("of(5, 4)", x.of(5, 4), 34);
        due("of(3, 4)", x.of(3, 4), 8);
        due("of(3, 2)", x.of(3, 2), 0);
        due("of(6, 0)", x.of(6, 0), -1);
        due("of(-1, 0)", x.of(-1, 0), -1);
        due("of(0, 5)", x.of(0, 5), -1);
        due("of(0, -1)", x.of(0, -1), -1);
        x = after("n6;l5,4;l4,3;l3,2;l2,1;l1,0");
        due("of(0, 4)", x.of(0, 4), 63);
        due("of(5, 4)", x.of(5, 4), 63);
    }

    private static void partition() {
        part = "8 partition";
        ColorFunctions x = new ColorFunctions();
        int[] many = {1, 2, 3, 5, 7, 11};
        for (int w = 1; w <= 6; w++) {
            due("partition(" + w + ", -1, -9)", x.partition(w, -1, -9), many[w - 1]);
        }
        String[] six = {"6", "51", "42", "411", "33", "321", "3111", "222", "2211", "21111", "111111"};
        for (int k = 0; k < six.length; k++) {
            due("partition(6, " + k + ", -1)", x.partition(6, k, -1), six[k].length());
            for (int i = 0; i < six[k].length(); i++) {
                due("partition(6, " + k + ", " + i + ")", x.partition(6, k, i), six[k].charAt(i) - '0');
            }
            due("partition(6, " + k + ", length)", x.partition(6, k, six[k].length()), -2);
        }
        due("partition(4, 2, 1)", x.partition(4, 2, 1), 2);
        due("partition(3, 1, 0)", x.partition(3, 1, 0), 2);
        due("partition(3, 0, MOST)", x.partition(3, 0, MOST), -2);
        due("partition(3, 0, -2)", x.partition(3, 0, -2), -1);
        due("partition(3, 0, LEAST)", x.partition(3, 0, LEAST), -1);
        due("partition(3, 3, 0)", x.partition(3, 3, 0), -1);
        due("partition(3, -2, 0)", x.partition(3, -2, 0), -1);
        due("partition(0, -1, 0)", x.partition(0, -1, 0), -1);
        due("partition(7, -1, 0)", x.partition(7, -1, 0), -1);
        due("partition(LEAST, MOST, 0)", x.partition(LEAST, MOST, 0), -1);
        due("partition(3, MOST, 0)", x.partition(3, MOST, 0), -1);
    }

    private static void parts(ColorFunctions x, int basis, long... want) {
        for (int k = 0; k < want.length; k++) {
            due("part(" + basis + ", " + k + ")", x.part(basis, k), want[k]);
        }
        due("part(" + basis + ", behind)", x.part(basis, want.length), VOID);
        due("part(" + basis + ", -1)", x.part(basis, -1), VOID);
    }

    private static void part() {
        part = "9 part: a path of three";
        ColorFunctions x = after("l0,1;l1,2");
        parts(x, 0, 1, -2, 1);
        parts(x, 1, 0, 1, 6);
        parts(x, 2, 3, 1, 0);
        part = "9 part: a ring of three";
        x = after("l0,1;l1,2;l0,2");
        parts(x, 0, 2, -3, 1);
        parts(x, 1, 0, 0, 6);
        parts(x, 2, 6, 0, 0);
        part = "9 part: weights 2 and 1, a line";
        x = after("n2;w0,2;l0,1");
        parts(x, 0, -1, 1, 0);
        parts(x, 1, 0, 1, 0);
        parts(x, 2, -3, 1, 0);
        part = "9 part: one point of 3";
        x = after("n1;w0,3");
        parts(x, 0, 1, 0, 0);
        parts(x, 1, 1, 0, 0);
        parts(x, 2, 3, -3, 1);
        due("part(-1, 0)", x.part(-1, 0), VOID);
        due("part(3, 0)", x.part(3, 0), VOID);
        due("part(LEAST, MOST)", x.part(LEAST, MOST), VOID);
    }

    private static void colorings() {
        part = "10 colorings";
        ColorFunctions x = after("l0,1;l1,2");
        for (int k = 0; k <= 9; k++) {
            due("colorings(" + k + ")", x.colorings(k), (long) k * (k - 1) * (k - 1));
        }
        due("colorings(-1)", x.colorings(-1), VOID);
        due("colorings(10)", x.colorings(10), VOID);
        x = after("n6");
        due("colorings(9)", x.colorings(9), 531441);
        x = after("n6;S0,5;S1,5;S2,5;S3,5;S4,5");
        due("colorings(5)", x.colorings(5), 0);
        due("colorings(6)", x.colorings(6), 720);
        due("colorings(7)", x.colorings(7), 5040);
        x = after("n2;w0,5;l0,1");
        due("colorings(2) whatever the weights", x.colorings(2), 2);
    }

    private static void sinks() {
        part = "11 sinks";
        ColorFunctions x = new ColorFunctions();
        int[] none = {0, 0, 0, 1};
        int[] path = {0, 3, 1, 0};
        for (int j = 0; j <= 3; j++) {
            due("sinks(" + j + ")", x.sinks(j), none[j]);
        }
        due("sinks(4)", x.sinks(4), -1);
        due("sinks(-1)", x.sinks(-1), -1);
        due("sinks(MOST)", x.sinks(MOST), -1);
        x = after("l0,1;l1,2");
        for (int j = 0; j <= 3; j++) {
            due("sinks(" + j + ") of a path", x.sinks(j), path[j]);
        }
        x = after("n6;S0,5;S1,5;S2,5;S3,5;S4,5");
        due("sinks(1) of all lines", x.sinks(1), 720);
        due("sinks(2) of all lines", x.sinks(2), 0);
        x = after("n6;S0,5");
        due("sinks(1) of a star", x.sinks(1), 6);
        due("sinks(5) of a star", x.sinks(5), 1);
        x = after("n2;w0,3;w1,3;l0,1");
        due("sinks(1) whatever the weights", x.sinks(1), 2);
    }

    private static void peeled() {
        part = "12 peeled";
        String[] texts = {"n1", "n2;l0,1", "n3;P0,2", "n6;P0,5", "n6;S0,5", "n5;P0,4", "n6;P0,4;l2,5"};
        int[] rounds = {0, 0, 1, 2, 1, 2, 2};
        int[] centre = {1, 3, 2, 12, 1, 4, 4};
        for (int i = 0; i < texts.length; i++) {
            ColorFunctions x = after(texts[i]);
            due(texts[i] + " peeled(0)", x.peeled(0), rounds[i]);
            due(texts[i] + " peeled(1)", x.peeled(1), centre[i]);
            due(texts[i] + " peeled(2)", x.peeled(2), -1);
        }
        ColorFunctions x = new ColorFunctions();
        due("peeled(0)", x.peeled(0), -5);
        due("peeled(1)", x.peeled(1), -5);
        due("peeled(-1)", x.peeled(-1), -1);
        due("peeled(2)", x.peeled(2), -1);
        x = after("n4;l0,1;l1,2;l0,2");
        due("peeled(0) of a ring and one more", x.peeled(0), -5);
        x = after("l0,1;l1,2;l0,2");
        due("peeled(0) of a ring", x.peeled(0), -5);
    }

    private static void keep() {
        part = "13 keep";
        ColorFunctions x = after("w0,2;l0,1;k1,2");
        due("keep(0, 0)", x.keep(0, 0), 4);
        due("keep(3, 1)", x.keep(3, 1), 4);
        due("keep(4, 0)", x.keep(4, 0), -1);
        due("keep(-1, 0)", x.keep(-1, 0), -1);
        due("keep(0, 2)", x.keep(0, 2), -1);
        due("keep(0, -1)", x.keep(0, -1), -1);
        due("count(7)", x.count(7), 2);
        due("count(5)", x.count(5), 3);
        long power = x.part(0, 1);
        x.points(6);
        due("partOf(3, 0, 1)", x.partOf(3, 0, 1), power);
        due("weightOf(3)", x.weightOf(3), 4);
        due("lay(0)", x.lay(0), 4);
        due("of(1, 0)", x.of(1, 0), 2);
        due("of(0, 1)", x.of(0, 1), 2);
        due("of(0, 3)", x.of(0, 3), 2);
        due("keep(0, 1)", x.keep(0, 1), 4);
        due("lay(0)", x.lay(0), -12);
    }

    private static void lay() {
        part = "14 lay";
        ColorFunctions x = new ColorFunctions();
        due("lay(0)", x.lay(0), -11);
        due("lay(4)", x.lay(4), -1);
        due("lay(-1)", x.lay(-1), -1);
        x.row(1, 3);
        due("lay(1)", x.lay(1), -12);
        x.keep(2, 1);
        due("lay(2)", x.lay(2), -12);
        x.keep(0, 0);
        due("lay(0)", x.lay(0), 3);
        due("count(5)", x.count(5), 0);
        x.kind(1, 3);
        due("lay(0)", x.lay(0), 3);
        due("of(1, 0)", x.of(1, 0), 0);
        due("count(5)", x.count(5), 2);
        due("back()", x.back(), 1);
        due("of(1, 0)", x.of(1, 0), 3);
        x.points(5);
        x.weight(0, 2);
        x.keep(3, 0);
        x.weight(0, 1);
        due("lay(3)", x.lay(3), 6);
        x.line(0, 1, 1);
        due("lay(3)", x.lay(3), 6);
        due("count(1)", x.count(1), 0);
    }

    private static void like() {
        part = "15 like";
        ColorFunctions x = after("n4;P0,3;w0,2");
        due("like(0)", x.like(0), -11);
        due("like(4)", x.like(4), -1);
        due("like(-1)", x.like(-1), -1);
        x.row(1, 3);
        due("like(1)", x.like(1), -12);
        x.keep(1, 1);
        due("like(1)", x.like(1), -12);
        x.keep(0, 0);
        due("like(0)", x.like(0), 1);
        read(x, "n4;l2,0;l0,3;l3,1;w1,2;k0,3");
        due("like(0) renamed, other kinds", x.like(0), 1);
        read(x, "w1,1;w0,2");
        due("like(0) with another weight", x.like(0), 0);
        read(x, "n4;S0,3;w1,2");
        due("like(0) of a star", x.like(0), 0);
        read(x, "n5;P0,3");
        due("like(0) of more points", x.like(0), 0);
        read(x, "n6;P0,2;l0,2;P3,5;l3,5");
        x.keep(2, 0);
        read(x, "n6;P0,5;l0,5");
        due("like(2) of two rings and one", x.like(2), 0);
        read(x, "n4;l0,1;l2,3;l1,2");
        x.keep(3, 0);
        read(x, "n4;l0,1;l0,2;l0,3");
        due("like(3) of as many lines", x.like(3), 0);
        read(x, "n3;l0,1;w0,2");
        x.keep(3, 0);
        read(x, "n3;l0,1;w2,2");
        due("like(3) of the weight elsewhere", x.like(3), 0);
        read(x, "n3;l1,2;w2,2");
        due("like(3) turned over", x.like(3), 1);
        read(x, "n3;l0,2;w2,2");
        due("like(3) with the second point alone", x.like(3), 1);
        read(x, "n2;l0,1");
        x.keep(3, 0);
        read(x, "n2");
        due("like(3) without the line", x.like(3), 0);
    }

    private static void same() {
        part = "16 same";
        ColorFunctions x = after("n4;P0,3");
        due("same(0)", x.same(0), -11);
        due("same(4)", x.same(4), -1);
        due("same(-1)", x.same(-1), -1);
        x.keep(0, 0);
        due("same(0)", x.same(0), -12);
        x.row(0, 0);
        due("same(0)", x.same(0), -12);
        x.keep(1, 1);
        due("same(1)", x.same(1), 1);
        read(x, "n4;l2,0;l0,3;l3,1");
        due("same(1) renamed", x.same(1), 1);
        read(x, "n4;S0,3");
        due("same(1) of a star", x.same(1), 0);
        read(x, "n5;P0,4");
        due("same(1) of another W", x.same(1), 0);
        // the two networks of five points and one function
        read(x, "n5;l0,1;l0,2;l1,2;l0,3;l0,4;l3,4");
        x.keep(2, 1);
        x.keep(3, 0);
        read(x, "n5;l0,1;l1,2;l2,3;l3,0;l0,2;l3,4");
        due("same(2)", x.same(2), 1);
        due("like(3)", x.like(3), 0);
    }

    private static void weightOf() {
        part = "17 weightOf";
        ColorFunctions x = after("n2;w0,4");
        due("weightOf(0)", x.weightOf(0), -11);
        due("weightOf(4)", x.weightOf(4), -1);
        due("weightOf(-1)", x.weightOf(-1), -1);
        x.keep(0, 0);
        due("weightOf(0)", x.weightOf(0), -12);
        x.film(0);
        due("weightOf(0)", x.weightOf(0), -12);
        x.keep(0, 1);
        due("weightOf(0)", x.weightOf(0), 5);
        x.points(6);
        due("weightOf(0)", x.weightOf(0), 5);
    }

    private static void partOf() {
        part = "18 partOf";
        ColorFunctions x = after("n4;P0,3;l0,3");
        due("partOf(0, 0, 0)", x.partOf(0, 0, 0), VOID);
        x.keep(0, 0);
        due("partOf(0, 0, 0)", x.partOf(0, 0, 0), VOID);
        x.row(0, 2);
        due("partOf(0, 0, 0)", x.partOf(0, 0, 0), VOID);
        x.keep(0, 1);
        for (int basis = 0; basis < 3; basis++) {
            for (int k = -1; k <= 5; k++) {
                due("partOf(0, " + basis + ", " + k + ")", x.partOf(0, basis, k), x.part(basis, k));
            }
        }
        due("partOf(0, -1, 0)", x.partOf(0, -1, 0), VOID);
        due("partOf(0, 3, 0)", x.partOf(0, 3, 0), VOID);
        due("partOf(-1, 0, 0)", x.partOf(-1, 0, 0), VOID);
        due("partOf(4, 0, 0)", x.partOf(4, 0, 0), VOID);
        due("partOf(0, 0, MOST)", x.partOf(0, 0, MOST), VOID);
    }

    private static void plus() {
        part = "19 plus";
        ColorFunctions x = new ColorFunctions();
        x.keep(0, 1);
        x.line(0, 1, 1);
        x.keep(1, 1);
        due("plus(0, 1, 2, 1)", x.plus(0, 1, 2, 1), 3);
        due("partOf(2, 0, 0)", x.partOf(2, 0, 0), 0);
        due("partOf(2, 0, 1)", x.partOf(2, 0, 1), 1);
        due("partOf(2, 0, 2)", x.partOf(2, 0, 2), 0);
        due("plus(1, 1, 1, 0)", x.plus(1, 1, 1, 0), 3);
        due("partOf(1, 0, 1)", x.partOf(1, 0, 1), -2);
        due("partOf(1, 0, 2)", x.partOf(1, 0, 2), 2);
        due("partOf(1, 1, 2)", x.partOf(1, 1, 2), 12);
        due("partOf(1, 2, 1)", x.partOf(1, 2, 1), 4);
        due("plus(1, 2, 2, 0)", x.plus(1, 2, 2, 0), 3);
        due("partOf(2, 0, 1)", x.partOf(2, 0, 1), -1);
        due("plus(2, 2, 3, 1)", x.plus(2, 2, 3, 1), 3);
        due("partOf(3, 0, 1)", x.partOf(3, 0, 1), 0);
        due("count(5)", x.count(5), 1);
        due("plus(0, 1, 2, 2)", x.plus(0, 1, 2, 2), -1);
        due("plus(0, 1, 2, -1)", x.plus(0, 1, 2, -1), -1);
        due("plus(4, 1, 2, 0)", x.plus(4, 1, 2, 0), -1);
        due("plus(0, -1, 2, 0)", x.plus(0, -1, 2, 0), -1);
        due("plus(0, 1, 4, 0)", x.plus(0, 1, 4, 0), -1);
        x.row(3, -1);
        due("plus(3, 1, 4, 0) BAD ahead of -11", x.plus(3, 1, 4, 0), -1);
        due("plus(3, 1, 2, 0)", x.plus(3, 1, 2, 0), -11);
        due("plus(1, 3, 2, 0)", x.plus(1, 3, 2, 0), -11);
        x.row(2, 1);
        due("plus(2, 3, 2, 0)", x.plus(2, 3, 2, 0), -11);
        due("plus(3, 2, 2, 0)", x.plus(3, 2, 2, 0), -11);
        due("plus(2, 2, 3, 0)", x.plus(2, 2, 3, 0), -12);
        due("plus(1, 2, 3, 0)", x.plus(1, 2, 3, 0), -12);
        x.points(4);
        x.keep(3, 1);
        due("plus(1, 3, 0, 0)", x.plus(1, 3, 0, 0), -5);
        ColorFunctions y = after("n1;w0,3");
        y.keep(0, 1);
        due("plus(0, 0, 1, 0)", y.plus(0, 0, 1, 0), 3);
        due("partOf(1, 0, 0)", y.partOf(1, 0, 0), 2);
        due("same(1)", y.same(1), 0);
        due("plus(1, 0, 1, 1)", y.plus(1, 0, 1, 1), 3);
        due("same(1)", y.same(1), 1);
        due("partOf(0, 0, 2)", x.partOf(0, 0, 2), 1);
        due("plus(1, 1, 2, 0) on a row", x.plus(1, 1, 2, 0), 3);
        for (int i = 0; i < 63; i++) {
            x.plus(1, 1, 1, 0);
        }
        due("partOf(1, 0, 2) wraps", x.partOf(1, 0, 2), 0);
        x.plus(0, 0, 1, 0);
        for (int i = 0; i < 62; i++) {
            x.plus(1, 1, 1, 0);
        }
        due("partOf(1, 0, 2) wraps to the least", x.partOf(1, 0, 2), Long.MIN_VALUE);
    }

    private static void multiply() {
        part = "20 multiply";
        ColorFunctions x = new ColorFunctions();
        x.points(2);
        x.keep(0, 1);
        x.line(0, 1, 1);
        x.keep(1, 1);
        due("multiply(0, 1, 2)", x.multiply(0, 1, 2), 4);
        long[] both = {0, 0, 0, -1, 1};
        for (int k = 0; k < 5; k++) {
            due("partOf(2, 0, " + k + ")", x.partOf(2, 0, k), both[k]);
        }
        due("multiply(1, 1, 1)", x.multiply(1, 1, 1), 4);
        long[] square = {0, 0, 1, -2, 1};
        for (int k = 0; k < 5; k++) {
            due("partOf(1, 0, " + k + ")", x.partOf(1, 0, k), square[k]);
        }
        read(x, "n4;l0,1;l2,3");
        due("same(1) as put beside", x.same(1), 1);
        due("multiply(0, 1, 3)", x.multiply(0, 1, 3), 6);
        due("multiply(0, 3, 2)", x.multiply(0, 3, 2), -5);
        due("weightOf(2)", x.weightOf(2), 4);
        due("multiply(4, 1, 2)", x.multiply(4, 1, 2), -1);
        due("multiply(1, 4, 2)", x.multiply(1, 4, 2), -1);
        due("multiply(1, 1, -1)", x.multiply(1, 1, -1), -1);
        x.row(3, -1);
        due("multiply(3, 1, 4) BAD ahead of -11", x.multiply(3, 1, 4), -1);
        due("multiply(3, 1, 2)", x.multiply(3, 1, 2), -11);
        due("multiply(1, 3, 2)", x.multiply(1, 3, 2), -11);
        x.keep(2, 0);
        due("multiply(2, 3, 2)", x.multiply(2, 3, 2), -11);
        due("multiply(3, 2, 2)", x.multiply(3, 2, 2), -11);
        due("multiply(2, 0, 3)", x.multiply(2, 0, 3), -12);
        due("multiply(0, 2, 3)", x.multiply(0, 2, 3), -12);
        due("multiply(1, 0, 3)", x.multiply(1, 0, 3), 6);
    }

    private static void row() {
        part = "21 row";
        ColorFunctions x = new ColorFunctions();
        due("row(0, 40)", x.row(0, 40), 1);
        x.put(0, 39, 7);
        x.put(0, 0, 7);
        due("row(0, 40)", x.row(0, 40), 1);
        due("get(0, 39)", x.get(0, 39), 0);
        due("get(0, 0)", x.get(0, 0), 0);
        due("row(0, 41)", x.row(0, 41), -1);
        due("row(0, -2)", x.row(0, -2), -14);
        due("row(0, LEAST)", x.row(0, LEAST), -14);
        due("row(0, MOST)", x.row(0, MOST), -1);
        due("row(4, 1)", x.row(4, 1), -1);
        due("row(-1, -2)", x.row(-1, -2), -1);
        due("get(0, 39)", x.get(0, 39), 0);
        due("row(0, 0)", x.row(0, 0), 1);
        due("count(7)", x.count(7), 1);
        due("get(0, 0)", x.get(0, 0), VOID);
        due("row(0, -1)", x.row(0, -1), 1);
        due("row(0, -1)", x.row(0, -1), 1);
        due("count(7)", x.count(7), 0);
        due("put(0, 0, 1)", x.put(0, 0, 1), -11);
        x.keep(1, 0);
        due("row(1, -1)", x.row(1, -1), 1);
        due("lay(1)", x.lay(1), -11);
    }

    private static void put() {
        part = "22 put";
        ColorFunctions x = new ColorFunctions();
        due("put(0, 0, 1)", x.put(0, 0, 1), -11);
        due("put(4, 0, 1)", x.put(4, 0, 1), -1);
        due("put(-1, 0, 1)", x.put(-1, 0, 1), -1);
        x.keep(0, 0);
        due("put(0, 0, 1)", x.put(0, 0, 1), -12);
        x.keep(0, 1);
        due("put(0, 99, 1)", x.put(0, 99, 1), -12);
        x.row(0, 3);
        due("put(0, 2, VOID)", x.put(0, 2, VOID), 1);
        due("put(0, 1, -7)", x.put(0, 1, -7), 1);
        due("put(0, 3, 1)", x.put(0, 3, 1), -13);
        due("put(0, -1, 1)", x.put(0, -1, 1), -13);
        due("put(0, LEAST, 1)", x.put(0, LEAST, 1), -13);
        due("get(0, 1)", x.get(0, 1), -7);
        due("get(0, 2)", x.get(0, 2), VOID);
    }

    private static void get() {
        part = "23 get";
        ColorFunctions x = new ColorFunctions();
        due("get(0, 0)", x.get(0, 0), VOID);
        due("get(4, 0)", x.get(4, 0), VOID);
        due("get(-1, 0)", x.get(-1, 0), VOID);
        x.keep(0, 1);
        due("get(0, 0)", x.get(0, 0), VOID);
        x.row(0, 2);
        x.put(0, 1, 5000000000L);
        due("get(0, 1)", x.get(0, 1), 5000000000L);
        due("get(0, 0)", x.get(0, 0), 0);
        due("get(0, 2)", x.get(0, 2), VOID);
        due("get(0, -1)", x.get(0, -1), VOID);
        due("get(0, MOST)", x.get(0, MOST), VOID);
        x.row(0, 1);
        due("get(0, 1)", x.get(0, 1), VOID);
    }

    private static void film() {
        part = "24 film";
        ColorFunctions x = after("n5;P0,4;l0,4");
        due("film(4)", x.film(4), -1);
        due("film(-1)", x.film(-1), -1);
        due("film(2)", x.film(2), 10);
        for (int k = 0; k < 10; k++) {
            due("get(2, " + k + ")", x.get(2, k), x.colorings(k));
        }
        due("get(2, 3)", x.get(2, 3), 30);
        due("get(2, 10)", x.get(2, 10), VOID);
        x.points(1);
        due("get(2, 3)", x.get(2, 3), 30);
        x.keep(2, 0);
        due("film(2)", x.film(2), 10);
        due("get(2, 9)", x.get(2, 9), 9);
    }

    private static void fits() {
        part = "25 fits";
        ColorFunctions x = after("n4;P0,3;l0,3");
        due("fits(0, 0, 0)", x.fits(0, 0, 0), -11);
        due("fits(0, 11, 0) BAD ahead of -11", x.fits(0, 11, 0), -1);
        x.film(0);
        x.line(0, 3, 0);
        due("fits(0, 10, 0)", x.fits(0, 10, 0), 1);
        due("fits(0, 10, 1)", x.fits(0, 10, 1), 3);
        due("fits(0, 2, 0)", x.fits(0, 2, 0), 3);
        due("fits(0, 2, 1)", x.fits(0, 2, 1), 2);
        due("fits(0, 3, 1)", x.fits(0, 3, 1), 3);
        due("fits(0, 0, 0)", x.fits(0, 0, 0), 3);
        due("count(1)", x.count(1), 3);
        due("count(5)", x.count(5), 6);
        x.put(0, 0, 1);
        due("fits(0, 1, 0) with a wrong first place", x.fits(0, 1, 0), 0);
        x.put(0, 0, 0);
        x.put(0, 9, 1);
        due("fits(0, 10, 0)", x.fits(0, 10, 0), 0);
        due("fits(0, 10, 1)", x.fits(0, 10, 1), -2);
        due("fits(0, 9, 1)", x.fits(0, 9, 1), 3);
        due("fits(0, 11, 0)", x.fits(0, 11, 0), -1);
        due("fits(0, -1, 0)", x.fits(0, -1, 0), -1);
        due("fits(0, 1, 2)", x.fits(0, 1, 2), -1);
        due("fits(0, 1, -1)", x.fits(0, 1, -1), -1);
        due("fits(4, 1, 0)", x.fits(4, 1, 0), -1);
        due("fits(-1, 1, 0)", x.fits(-1, 1, 0), -1);
        x.row(1, 2);
        due("fits(1, 3, 0)", x.fits(1, 3, 0), -13);
        due("fits(1, 2, 0)", x.fits(1, 2, 0), 3);
        x.keep(1, 0);
        due("fits(1, 3, 0)", x.fits(1, 3, 0), -12);
        read(x, "n3;S0,2;l1,2");
        x.row(1, 0);
        due("fits(1, 0, 0) of all lines", x.fits(1, 0, 0), 0);
        due("fits(1, 0, 1) of all lines", x.fits(1, 0, 1), -2);
        x.points(2);
        due("fits(1, 0, 1)", x.fits(1, 0, 1), 1);
        read(x, "n6;S0,5;S1,5;S2,5;S3,5");
        due("fits(1, 0, 1) of the last two", x.fits(1, 0, 1), 45);
    }

    private static void judge() {
        part = "26 judge";
        ColorFunctions x = after("n4;l0,2;l1,3;l2,3");
        due("judge(0)", x.judge(0), -11);
        due("judge(4)", x.judge(4), -1);
        due("judge(-1)", x.judge(-1), -1);
        x.keep(0, 1);
        due("judge(0)", x.judge(0), -12);
        x.row(0, 0);
        due("judge(0)", x.judge(0), 100);
        x.row(0, 2);
        due("judge(0)", x.judge(0), 102);
        x.row(0, 3);
        due("judge(0)", x.judge(0), 2);
        x.put(0, 2, 1);
        due("judge(0)", x.judge(0), 103);
        x.row(0, 4);
        x.put(0, 2, -1);
        due("judge(0)", x.judge(0), 3);
        x.put(0, 3, 9);
        due("judge(0)", x.judge(0), -2);
        x.row(0, 40);
        due("judge(0)", x.judge(0), 2);
        x.points(4);
        due("judge(0) without lines", x.judge(0), -2);
    }

    private static void back() {
        part = "27 back";
        ColorFunctions x = new ColorFunctions();
        due("back()", x.back(), -5);
        x.weight(0, 3);
        x.kind(1, 2);
        x.line(0, 1, 1);
        x.joined(0, 1);
        x.points(5);
        x.keep(0, 0);
        x.line(3, 4, 1);
        x.lay(0);
        due("count(5)", x.count(5), 7);
        due("back()", x.back(), 6);
        due("of(3, 3)", x.of(3, 3), 16);
        due("back()", x.back(), 5);
        due("count(1)", x.count(1), 0);
        due("back()", x.back(), 4);
        due("count(0)", x.count(0), 2);
        due("of(0, 1)", x.of(0, 1), 4);
        due("back()", x.back(), 3);
        due("of(0, 3)", x.of(0, 3), 2);
        due("of(1, 0)", x.of(1, 0), 2);
        due("of(0, 1)", x.of(0, 1), 3);
        due("back()", x.back(), 2);
        due("count(1)", x.count(1), 0);
        due("back()", x.back(), 1);
        due("of(1, 0)", x.of(1, 0), 0);
        due("back()", x.back(), 0);
        due("of(0, 1)", x.of(0, 1), 1);
        due("back()", x.back(), -5);
        part = "27 back: eight at most";
        for (int i = 1; i <= 9; i++) {
            x.kind(0, i % 5);
            due("count(5)", x.count(5), Math.min(i, 8));
        }
        for (int i = 8; i >= 1; i--) {
            due("back()", x.back(), i - 1);
            due("of(0, 0)", x.of(0, 0), i % 5);
        }
        due("back()", x.back(), -5);
        due("of(0, 0)", x.of(0, 0), 1);
        part = "27 back: texts and what is no step";
        x = after("n6;P0,5;P0,2;S0,1");
        due("count(5)", x.count(5), 6);
        x.points(6);
        x.points(6);
        due("count(5)", x.count(5), 8 - 1);
        due("back()", x.back(), 6);
        due("count(1)", x.count(1), 5);
        x.line(9, 0, 1);
        x.joined(0, 3);
        x.weight(0, 2);
        due("count(5)", x.count(5), 6);
    }

    private static void feed() {
        part = "28 feed";
        ColorFunctions x = new ColorFunctions();
        due("feed(31)", x.feed(31), -1);
        due("feed(127)", x.feed(127), -1);
        due("feed(-1)", x.feed(-1), -1);
        due("feed(LEAST)", x.feed(LEAST), -1);
        due("feed(32)", x.feed(32), 1);
        due("feed(126)", x.feed(126), 2);
        for (int i = 3; i <= 80; i++) {
            due("feed('a')", x.feed('a'), i);
        }
        due("feed('a')", x.feed('a'), -3);
        due("feed(31)", x.feed(31), -1);
        due("count(6)", x.count(6), 80);
    }

    private static void wipe() {
        part = "29 wipe";
        ColorFunctions x = new ColorFunctions();
        due("wipe()", x.wipe(), 0);
        x.feed('n');
        x.feed('4');
        due("wipe()", x.wipe(), 2);
        due("count(6)", x.count(6), 0);
        due("wipe()", x.wipe(), 0);
        due("read()", x.read(), -100);
    }

    private static void read() {
        part = "30 read";
        ColorFunctions x = new ColorFunctions();
        due("n4", read(x, "n4"), 1);
        due("count(0)", x.count(0), 4);
        due("count(6)", x.count(6), 0);
        due("l and u", read(x, "l0,1;l1,2;u1,0"), 3);
        due("of(1, 3)", x.of(1, 3), 4);
        due("w and k", read(x, "w3,3;k2,4"), 2);
        due("of(3, 1)", x.of(3, 1), 3);
        due("of(2, 0)", x.of(2, 0), 4);
        due("j", read(x, "j2,1"), 1);
        due("of(1, 1)", x.of(1, 1), 2);
        due("P", read(x, "n6;P1,4"), 2);
        due("of(0, 3)", x.of(0, 3), 0);
        due("of(1, 3)", x.of(1, 3), 4);
        due("of(3, 3)", x.of(3, 3), 20);
        due("of(4, 3)", x.of(4, 3), 8);
        due("S", read(x, "n6;S2,5"), 2);
        due("of(2, 3)", x.of(2, 3), 56);
        due("of(0, 3)", x.of(0, 3), 0);
        due("count(1)", x.count(1), 3);
        x = new ColorFunctions();
        StringBuilder text = new StringBuilder();
        for (int i = 0; i < 26; i++) {
            text.append("n1;");
        }
        text.append("n2");
        due("80 bytes", read(x, text.toString()), 27);
        due("count(0)", x.count(0), 2);
        due("count(5)", x.count(5), 2);
    }

    private static void readFaults() {
        part = "30 read: faults";
        ColorFunctions x = new ColorFunctions();
        // a text, its FAULT, how many ACTS are wholly ahead, where its ACT begins
        String[] texts = {"", "l", "l0", "l0,", "l0,1;", "n", "n4;", "x", "n4 ", "n44", "l0;", "l01", "l,1", "l0,1,",
            "N4", "n4;;", " n4", "l0,a", "lx", "n-1", "n4;l0,1;w0;q", "n4;l0,1;w0,2;q", "L0,1", "p0,1", "s0,1", "n/", "n:", "l0,1;9"};
        int[] faults = {0, 1, 2, 3, 5, 1, 3, 0, 2, 2, 2, 2, 1, 4, 0, 3, 0, 3, 1, 1, 10, 13, 0, 0, 0, 1, 1, 5};
        int[] ahead = {0, 0, 0, 0, 1, 0, 1, 0, 1, 1, 0, 0, 0, 1, 0, 1, 0, 0, 0, 0, 2, 3, 0, 0, 0, 0, 0, 1};
        int[] begins = {0, 0, 0, 0, 5, 0, 3, 0, 0, 0, 0, 0, 0, 0, 0, 3, 0, 0, 0, 0, 8, 13, 0, 0, 0, 0, 0, 5};
        for (int i = 0; i < texts.length; i++) {
            part = "30 read: the text '" + texts[i] + "'";
            due("read()", read(x, texts[i]), -100 - faults[i]);
            why(x, ahead[i], begins[i], faults[i]);
            due("count(6)", x.count(6), 0);
        }
        due("nothing is done by a fault", x.count(0), 3);
        due("count(5)", x.count(5), 0);
    }

    private static void readRefused() {
        part = "30 read: refused";
        String[] acts = {"n0", "n7", "l0,0", "l0,3", "u1,1", "u3,0", "w0,0", "w0,7", "w3,1", "w0,5", "k0,5", "k3,0",
            "j0,0", "j0,1", "j0,9", "P0,0", "P1,0", "P0,3", "S0,0", "S2,1", "S0,4", "S3,4", "P3,4"};
        int[] answers = {-1, -1, -1, -1, -1, -1, -1, -1, -1, -5, -1, -1,
            -1, -5, -1, -1, -1, -1, -1, -1, -1, -1, -1};
        for (int i = 0; i < acts.length; i++) {
            part = "30 read: refused " + acts[i];
            ColorFunctions x = new ColorFunctions();
            due("read()", read(x, "n3;l0,2;" + acts[i] + ";l1,2"), -202);
            why(x, 2, 8, answers[i]);
            due("count(1)", x.count(1), 1);
            due("count(2)", x.count(2), 3);
            due("count(5)", x.count(5), 1);
            due("count(6)", x.count(6), 0);
            due("back()", x.back(), 0);
        }
        part = "30 read: refused at once";
        ColorFunctions x = new ColorFunctions();
        due("read()", read(x, "n9;n4"), -200);
        due("count(0)", x.count(0), 3);
        why(x, 0, 0, -1);
    }

    private static void why() {
        part = "31 why";
        ColorFunctions x = new ColorFunctions();
        for (int i = 0; i < 3; i++) {
            due("why(" + i + ", 0)", x.why(i, 0), VOID);
            due("why(" + i + ", 1)", x.why(i, 1), VOID);
        }
        read(x, "n4;q");
        why(x, 1, 3, 3);
        due("why(-1, 0)", x.why(-1, 0), VOID);
        due("why(3, 0)", x.why(3, 0), VOID);
        due("why(0, 2)", x.why(0, 2), VOID);
        due("why(0, -1)", x.why(0, -1), VOID);
        due("why(MOST, LEAST)", x.why(MOST, LEAST), VOID);
        read(x, "n4");
        why(x, 1, 3, 3);
        x.points(2);
        x.image();
        x.undo();
        x.wipe();
        why(x, 1, 3, 3);
        read(x, "n4;j0,1");
        why(x, 1, 3, -5);
    }

    private static void act() {
        part = "32 act";
        ColorFunctions x = new ColorFunctions();
        x.points(3);
        x.weight(2, 3);
        // of each KIND: asks(10), says(10), tells(10) of POINT 2 with WEIGHT 3
        int[][] due = {
            {12, 11, 14},
            {12 ^ 6, 14 - (3 ^ 6), 14},
            {12 ^ 6, 28 - (3 ^ 6), 28},
            {12, 15 - 3, 14},
            {-(12 ^ 6), 25 + (3 ^ 6), 25}};
        for (int k = 0; k < 5; k++) {
            x.kind(2, k);
            for (int a = 0; a < 3; a++) {
                due("act(2, " + a + ", 10) of kind " + k, x.act(2, a, 10), due[k][a]);
            }
        }
        due("act(2, 2, MOST) wraps", x.act(2, 2, MOST), (MOST + 4) * 2 - 3);
        due("act(2, 0, MOST) wraps", x.act(2, 0, MOST), -((MOST + 2) ^ 6));
        x.kind(2, 3);
        due("act(2, 1, MOST) wraps", x.act(2, 1, MOST), MOST + 1 + 4 - 3);
        x.kind(2, 1);
        due("act(2, 0, LEAST)", x.act(2, 0, LEAST), (LEAST + 2) ^ 6);
        due("act(3, 0, 10)", x.act(3, 0, 10), 0);
        due("act(-1, 0, 10)", x.act(-1, 0, 10), 0);
        due("act(2, 3, 10)", x.act(2, 3, 10), 0);
        due("act(2, -1, 10)", x.act(2, -1, 10), 0);
    }

    private static void traced(ColorFunctions x, int... want) {
        for (int i = 0; i < want.length; i++) {
            due("trace(" + i + ")", x.trace(i), want[i]);
        }
        due("trace(behind)", x.trace(want.length), -2);
        due("trace(-1)", x.trace(-1), -2);
    }

    private static void trace() {
        part = "33 trace";
        ColorFunctions x = new ColorFunctions();
        traced(x);
        int[][][] due = {
            {{10}, {11, 1, 10}, {1}},
            {{20, 10}, {11, 1, 20, 10}, {1}},
            {{20, 10}, {11, 30, 1, 20, 10}, {30, 1}},
            {{10}, {40, 11, 1, 10}, {1}},
            {{51, 20, 10}, {11, 50, 30, 1, 51, 20, 10}, {50, 30, 1}}};
        for (int k = 0; k < 5; k++) {
            x.kind(1, k);
            for (int a = 0; a < 3; a++) {
                x.act(1, a, 5);
                traced(x, due[k][a]);
            }
        }
        x.act(3, 0, 5);
        x.act(0, 3, 5);
        x.act(-1, 0, 5);
        traced(x, 50, 30, 1);
        x.points(2);
        x.image();
        x.undo();
        traced(x, 50, 30, 1);
        due("trace(MOST)", x.trace(MOST), -2);
        due("trace(24)", x.trace(24), -2);
    }

    private static void taken() {
        part = "34 taken";
        ColorFunctions x = new ColorFunctions();
        x.weight(1, 3);
        String[] above = {"0", "01", "012", "03", "0124"};
        for (int kind = 0; kind < 5; kind++) {
            x.kind(1, kind);
            for (int k = 0; k < 5; k++) {
                due("taken(1, " + k + ") of kind " + kind, x.taken(1, k), above[kind].indexOf('0' + k) >= 0 ? 3 : -5);
            }
        }
        due("taken(1, 5)", x.taken(1, 5), -1);
        due("taken(1, -1)", x.taken(1, -1), -1);
        due("taken(3, 0)", x.taken(3, 0), -1);
        due("taken(-1, 0)", x.taken(-1, 0), -1);
    }

    private static void image() {
        part = "35 image";
        ColorFunctions x = after("n4;l0,1;w0,3;k3,2");
        due("image()", x.image(), 4);
        due("count(5)", x.count(5), 4);
        x.points(2);
        due("undo()", x.undo(), 4);
        due("of(0, 1)", x.of(0, 1), 3);
        due("of(0, 3)", x.of(0, 3), 2);
        due("of(3, 0)", x.of(3, 0), 2);
        x.points(1);
        due("image()", x.image(), 1);
        x.points(5);
        due("undo()", x.undo(), 1);
    }

    private static void undo() {
        part = "36 undo";
        ColorFunctions x = new ColorFunctions();
        due("undo()", x.undo(), -5);
        x.image();
        x.points(5);
        x.row(0, 2);
        x.put(0, 1, 8);
        x.feed('n');
        due("undo()", x.undo(), 3);
        due("count(5)", x.count(5), 0);
        due("back()", x.back(), -5);
        due("count(0)", x.count(0), 3);
        due("get(0, 1)", x.get(0, 1), 8);
        due("count(6)", x.count(6), 1);
        due("undo() again", x.undo(), 3);
        x.line(0, 1, 1);
        due("undo() again", x.undo(), 3);
        due("count(1)", x.count(1), 0);
        x.line(0, 1, 1);
        due("back()", x.back(), 0);
    }

    private static void count() {
        part = "37 count";
        ColorFunctions x = after("n6;P0,2;l0,2;l3,4");
        x.feed('a');
        x.keep(0, 0);
        x.keep(1, 1);
        x.row(2, 0);
        int[] want = {6, 4, 6, 3, 0, 5, 1, 3};
        for (int i = 0; i < want.length; i++) {
            due("count(" + i + ")", x.count(i), want[i]);
        }
        due("count(8)", x.count(8), -1);
        due("count(-1)", x.count(-1), -1);
        x = after("n6;S0,5");
        due("count(4) of a star", x.count(4), 1);
        x = after("n1;w0,4");
        due("count(4) of one", x.count(4), 1);
        due("count(2) of one", x.count(2), 4);
        x = after("n4;P0,2;l0,2");
        due("count(4) of a ring and one", x.count(4), 0);
        x = after("l0,1");
        due("count(4) of two parts", x.count(4), 0);
        due("count(3) of two parts", x.count(3), 2);
    }
}
