import java.util.ArrayDeque;
import java.util.ArrayList;
import java.util.Arrays;
import java.util.Collections;
import java.util.List;
import java.util.Map;
import java.util.Random;
import java.util.TreeMap;
import java.util.regex.Matcher;
import java.util.regex.Pattern;

/**
 * Long runs of calls with ordinary and wild numbers, each answer compared with that of a slow
 * model that follows the document's words: all sets of LINES, all colours, all directions.
 */
public final class ModelTest {
    private static final int RUNS = 300, CALLS = 512;

    public static void main(String[] args) {
        int wrong = 0;
        for (int run = 0; run < RUNS && wrong == 0; run++) {
            wrong += oneRun(run);
        }
        System.out.println(wrong == 0 ? "all answers are as due" : wrong + " answers are not as due");
        if (wrong != 0) {
            System.exit(1);
        }
    }

    private static int oneRun(int run) {
        Random random = new Random(run);
        ColorFunctions real = new ColorFunctions();
        Model model = new Model();
        List<String> told = new ArrayList<>();
        int used = 0;
        while (used < CALLS) {
            if (random.nextInt(12) == 0 && used < CALLS - 90) {
                used += text(random, real, model, told);
            } else {
                used += call(random, real, model, told);
            }
            if (model.wrong > 0) {
                System.out.println("run " + run + ", call " + used);
                for (String line : told.subList(Math.max(0, told.size() - 25), told.size())) {
                    System.out.println("  " + line);
                }
                return model.wrong;
            }
        }
        return 0;
    }

    private static int number(Random random, int most) {
        int choice = random.nextInt(60);
        if (choice == 0) {
            return random.nextInt();
        }
        if (choice == 1) {
            return -1;
        }
        if (choice == 2) {
            return random.nextBoolean() ? Integer.MIN_VALUE : Integer.MAX_VALUE;
        }
        if (choice == 3) {
            return most + 1;
        }
        if (choice == 4) {
            return -2;
        }
        return random.nextInt(most + 1);
    }

    private static int text(Random random, ColorFunctions real, Model model, List<String> told) {
        StringBuilder text = new StringBuilder();
        int acts = 1 + random.nextInt(8);
        for (int i = 0; i < acts; i++) {
            text.append(i == 0 ? "" : ";");
            char letter = "nlluwkjPSll".charAt(random.nextInt(11));
            int most = random.nextInt(6) == 0 ? 9 : 5;
            text.append(letter).append(letter == 'n' ? 1 + random.nextInt(6) : random.nextInt(most + 1));
            if (letter != 'n') {
                text.append(',').append(random.nextInt(most + 1));
            }
        }
        if (random.nextInt(3) == 0 && text.length() > 0) {
            int at = random.nextInt(text.length());
            switch (random.nextInt(3)) {
                case 0:
                    text.setLength(at);
                    break;
                case 1:
                    text.setCharAt(at, "nlw;,0 9PS~".charAt(random.nextInt(11)));
                    break;
                default:
                    text.insert(at, "nlw;,0 9PS~".charAt(random.nextInt(11)));
            }
        }
        for (int i = 0; i < text.length(); i++) {
            model.due(told, "feed(" + text.charAt(i) + ")", real.feed(text.charAt(i)), model.feed(text.charAt(i)));
        }
        model.due(told, "read()", real.read(), model.read());
        for (int i = 0; i < 3; i++) {
            model.due(told, "why(" + i + ", 1)", real.why(i, 1), model.why(i, 1));
        }
        return text.length() + 4;
    }

    private static int call(Random random, ColorFunctions real, Model model, List<String> told) {
        int a = number(random, 5), b = number(random, 5), c = number(random, 1), s = number(random, 3);
        int t = number(random, 3), u = number(random, 3), k = number(random, 10), basis = number(random, 2);
        String name;
        long got, due;
        switch (random.nextInt(46)) {
            case 0: {
                int n = number(random, 6);
                name = "points(" + n + ")"; got = real.points(n); due = model.points(n); break;
            }
            case 1: {
                int v = number(random, 3);
                name = "weight(" + a + ", " + v + ")"; got = real.weight(a, v); due = model.weight(a, v); break;
            }
            case 2: {
                int v = number(random, 4);
                name = "kind(" + a + ", " + v + ")"; got = real.kind(a, v); due = model.kind(a, v); break;
            }
            case 3: case 4: case 5: case 6: case 7: case 8:
                name = "line(" + a + ", " + b + ", " + c + ")"; got = real.line(a, b, c); due = model.line(a, b, c); break;
            case 9:
                name = "joined(" + a + ", " + b + ")"; got = real.joined(a, b); due = model.joined(a, b); break;
            case 10: {
                int v = number(random, 4);
                name = "of(" + a + ", " + v + ")"; got = real.of(a, v); due = model.of(a, v); break;
            }
            case 11: {
                int w = number(random, 6), j = number(random, 5);
                name = "partition(" + w + ", " + k + ", " + j + ")";
                got = real.partition(w, k, j); due = model.partition(w, k, j); break;
            }
            case 12: case 13: case 14:
                name = "part(" + basis + ", " + k + ")"; got = real.part(basis, k); due = model.part(basis, k); break;
            case 15:
                name = "colorings(" + k + ")"; got = real.colorings(k); due = model.colorings(k); break;
            case 16:
                name = "sinks(" + a + ")"; got = real.sinks(a); due = model.sinks(a); break;
            case 17:
                name = "peeled(" + c + ")"; got = real.peeled(c); due = model.peeled(c); break;
            case 18: case 19: case 20:
                name = "keep(" + s + ", " + c + ")"; got = real.keep(s, c); due = model.keep(s, c); break;
            case 21:
                name = "lay(" + s + ")"; got = real.lay(s); due = model.lay(s); break;
            case 22:
                name = "like(" + s + ")"; got = real.like(s); due = model.like(s); break;
            case 23:
                name = "same(" + s + ")"; got = real.same(s); due = model.same(s); break;
            case 24:
                name = "weightOf(" + s + ")"; got = real.weightOf(s); due = model.weightOf(s); break;
            case 25: case 26:
                name = "partOf(" + s + ", " + basis + ", " + k + ")";
                got = real.partOf(s, basis, k); due = model.partOf(s, basis, k); break;
            case 27:
                name = "plus(" + s + ", " + t + ", " + u + ", " + c + ")";
                got = real.plus(s, t, u, c); due = model.plus(s, t, u, c); break;
            case 28:
                name = "multiply(" + s + ", " + t + ", " + u + ")";
                got = real.multiply(s, t, u); due = model.multiply(s, t, u); break;
            case 29: {
                int n = number(random, 40);
                name = "row(" + s + ", " + n + ")"; got = real.row(s, n); due = model.row(s, n); break;
            }
            case 30: case 31: {
                long v = random.nextInt(3) == 0 ? random.nextLong() : random.nextInt(3);
                name = "put(" + s + ", " + a + ", " + v + ")"; got = real.put(s, a, v); due = model.put(s, a, v); break;
            }
            case 32:
                name = "get(" + s + ", " + k + ")"; got = real.get(s, k); due = model.get(s, k); break;
            case 33:
                name = "film(" + s + ")"; got = real.film(s); due = model.film(s); break;
            case 34: case 35:
                name = "fits(" + s + ", " + k + ", " + c + ")";
                got = real.fits(s, k, c); due = model.fits(s, k, c); break;
            case 36:
                name = "judge(" + s + ")"; got = real.judge(s); due = model.judge(s); break;
            case 37:
                name = "back()"; got = real.back(); due = model.back(); break;
            case 38: {
                int v = number(random, 130);
                name = "feed(" + v + ")"; got = real.feed(v); due = model.feed(v); break;
            }
            case 39:
                name = "wipe()"; got = real.wipe(); due = model.wipe(); break;
            case 40:
                name = "why(" + basis + ", " + c + ")"; got = real.why(basis, c); due = model.why(basis, c); break;
            case 41: {
                int x = random.nextInt();
                name = "act(" + a + ", " + basis + ", " + x + ")";
                got = real.act(a, basis, x); due = model.act(a, basis, x); break;
            }
            case 42:
                name = "trace(" + k + ")"; got = real.trace(k); due = model.trace(k); break;
            case 43: {
                int v = number(random, 4);
                name = "taken(" + a + ", " + v + ")"; got = real.taken(a, v); due = model.taken(a, v); break;
            }
            case 44:
                if (random.nextBoolean()) {
                    name = "image()"; got = real.image(); due = model.image();
                } else {
                    name = "undo()"; got = real.undo(); due = model.undo();
                }
                break;
            default: {
                int v = number(random, 7);
                name = "count(" + v + ")"; got = real.count(v); due = model.count(v);
            }
        }
        model.due(told, name, got, due);
        return 1;
    }

    /** One network; never changed once it is made. */
    private static final class Shape {
        final int[] weight;
        final int[] kind;
        final boolean[][] line;

        Shape(int n) {
            weight = new int[n];
            kind = new int[n];
            line = new boolean[n][n];
            Arrays.fill(weight, 1);
        }

        Shape copy() {
            Shape other = new Shape(weight.length);
            for (int i = 0; i < weight.length; i++) {
                other.weight[i] = weight[i];
                other.kind[i] = kind[i];
                other.line[i] = line[i].clone();
            }
            return other;
        }

        Shape without(int gone) {
            Shape other = new Shape(weight.length - 1);
            for (int i = 0; i < other.weight.length; i++) {
                int from = i < gone ? i : i + 1;
                other.weight[i] = weight[from];
                other.kind[i] = kind[from];
                for (int j = 0; j < other.weight.length; j++) {
                    other.line[i][j] = line[from][j < gone ? j : j + 1];
                }
            }
            return other;
        }

        boolean isAs(Shape other) {
            return Arrays.equals(weight, other.weight) && Arrays.equals(kind, other.kind)
                && Arrays.deepEquals(line, other.line);
        }

        int total() {
            return Arrays.stream(weight).sum();
        }

        List<int[]> lines() {
            List<int[]> all = new ArrayList<>();
            for (int a = 0; a < weight.length; a++) {
                for (int b = a + 1; b < weight.length; b++) {
                    if (line[a][b]) {
                        all.add(new int[] {a, b});
                    }
                }
            }
            return all;
        }

        /** For each point the least one that it hangs together with, by the chosen lines. */
        int[] parts(List<int[]> lines, long chosen) {
            int[] least = new int[weight.length];
            for (int i = 0; i < least.length; i++) {
                least[i] = i;
            }
            for (int i = 0; i < lines.size(); i++) {
                if ((chosen >> i & 1) == 1) {
                    int a = least[lines.get(i)[0]], b = least[lines.get(i)[1]];
                    for (int j = 0; j < least.length; j++) {
                        if (least[j] == a || least[j] == b) {
                            least[j] = Math.min(a, b);
                        }
                    }
                }
            }
            return least;
        }

        int[] parts() {
            return parts(lines(), -1);
        }

        int hanging(int point) {
            int[] least = parts();
            int bits = 0;
            for (int i = 0; i < least.length; i++) {
                bits |= least[i] == least[point] ? 1 << i : 0;
            }
            return bits;
        }

        int pieces() {
            return (int) Arrays.stream(parts()).distinct().count();
        }

        boolean isTree() {
            return pieces() == 1 && lines().size() == weight.length - 1;
        }

        Map<String, Long> power() {
            Map<String, Long> sums = new TreeMap<>();
            List<int[]> lines = lines();
            for (long chosen = 0; chosen < 1L << lines.size(); chosen++) {
                int[] least = parts(lines, chosen);
                int[] mass = new int[weight.length];
                for (int i = 0; i < least.length; i++) {
                    mass[least[i]] += weight[i];
                }
                sums.merge(sorted(mass), Long.bitCount(chosen) % 2 == 0 ? 1L : -1L, Long::sum);
            }
            return sums;
        }

        /** Colourings with k colours; with goals (or null) as weights of the colours. */
        long colourings(int k, int[] goals) {
            int n = weight.length;
            int[] colour = new int[n];
            long found = 0;
            long all = 1;
            for (int i = 0; i < n; i++) {
                all *= k;
            }
            for (long c = 0; c < all; c++) {
                long rest = c;
                for (int i = 0; i < n; i++) {
                    colour[i] = (int) (rest % k);
                    rest /= k;
                }
                if (isRight(colour) && (goals == null || weighs(colour, goals))) {
                    found++;
                }
            }
            return found;
        }

        private boolean weighs(int[] colour, int[] goals) {
            int[] sums = new int[goals.length];
            for (int i = 0; i < colour.length; i++) {
                sums[colour[i]] += weight[i];
            }
            return Arrays.equals(sums, goals);
        }

        private boolean isRight(int[] colour) {
            for (int a = 0; a < colour.length; a++) {
                for (int b = 0; b < a; b++) {
                    if (line[a][b] && colour[a] == colour[b]) {
                        return false;
                    }
                }
            }
            return true;
        }

        /** Of all directions without rings how many have j sinks. */
        int sinks(int j) {
            List<int[]> lines = lines();
            int found = 0;
            for (long way = 0; way < 1L << lines.size(); way++) {
                int[] leads = new int[weight.length];
                for (int i = 0; i < lines.size(); i++) {
                    int to = (int) (way >> i & 1);
                    leads[lines.get(i)[1 - to]] |= 1 << lines.get(i)[to];
                }
                int count = 0;
                for (int lead : leads) {
                    count += lead == 0 ? 1 : 0;
                }
                found += count == j && !hasRing(leads) ? 1 : 0;
            }
            return found;
        }

        private static boolean hasRing(int[] leads) {
            int left = (1 << leads.length) - 1;
            for (boolean more = true; more;) {
                more = false;
                for (int i = 0; i < leads.length; i++) {
                    if ((left >> i & 1) == 1 && (leads[i] & left) == 0) {
                        left ^= 1 << i;
                        more = true;
                    }
                }
            }
            return left != 0;
        }

        boolean isLike(Shape other) {
            if (weight.length != other.weight.length) {
                return false;
            }
            List<Integer> names = new ArrayList<>();
            for (int i = 0; i < weight.length; i++) {
                names.add(i);
            }
            return likeBy(other, names, 0);
        }

        private boolean likeBy(Shape other, List<Integer> names, int from) {
            if (from == names.size()) {
                for (int a = 0; a < weight.length; a++) {
                    if (weight[a] != other.weight[names.get(a)]) {
                        return false;
                    }
                    for (int b = 0; b < weight.length; b++) {
                        if (line[a][b] != other.line[names.get(a)][names.get(b)]) {
                            return false;
                        }
                    }
                }
                return true;
            }
            for (int i = from; i < names.size(); i++) {
                Collections.swap(names, from, i);
                if (likeBy(other, names, from + 1)) {
                    return true;
                }
                Collections.swap(names, from, i);
            }
            return false;
        }
    }

    /** The numbers above 0, the greatest first, as a text of figures. */
    private static String sorted(int... numbers) {
        StringBuilder text = new StringBuilder();
        for (int figure = 9; figure > 0; figure--) {
            for (int number : numbers) {
                if (number == figure) {
                    text.append(figure);
                }
            }
        }
        return text.toString();
    }

    private static int[] figures(String partition) {
        return partition.chars().map(c -> c - '0').toArray();
    }

    private static List<String> partitions(int w) {
        List<String> all = new ArrayList<>();
        int limit = (int) Math.pow(7, w);
        for (int code = 0; code < limit; code++) {
            int[] numbers = new int[w];
            int sum = 0;
            for (int i = 0, rest = code; i < w; i++, rest /= 7) {
                numbers[i] = rest % 7;
                sum += numbers[i];
            }
            if (sum == w && !all.contains(sorted(numbers))) {
                all.add(sorted(numbers));
            }
        }
        all.sort(Collections.reverseOrder());
        return all;
    }

    private static final List<List<String>> PARTITIONS = new ArrayList<>();

    static {
        for (int w = 0; w <= 6; w++) {
            PARTITIONS.add(partitions(w));
        }
    }

    /** In how many ways the numbers of l can be laid to places of m, each getting its number. */
    private static long ways(int[] l, int from, int[] m) {
        if (from == l.length) {
            return Arrays.stream(m).allMatch(left -> left == 0) ? 1 : 0;
        }
        long sum = 0;
        for (int i = 0; i < m.length; i++) {
            m[i] -= l[from];
            sum += ways(l, from + 1, m);
            m[i] += l[from];
        }
        return sum;
    }

    /** A FUNCTION as POWER by PARTITION. */
    private static final class Sum {
        final int w;
        final Map<String, Long> power;

        Sum(int w, Map<String, Long> power) {
            this.w = w;
            this.power = power;
        }

        long of(String partition) {
            return power.getOrDefault(partition, 0L);
        }

        long counted(String m) {
            long sum = 0;
            for (Map.Entry<String, Long> l : power.entrySet()) {
                if (l.getValue() != 0) {
                    sum += l.getValue() * ways(figures(l.getKey()), 0, figures(m));
                }
            }
            return sum;
        }

        /** By what a power of one number is in elementary ones (Waring), multiplied out. */
        long elementary(String partition) {
            long sum = 0;
            for (Map.Entry<String, Long> l : power.entrySet()) {
                Map<String, Long> product = new TreeMap<>();
                product.put("", 1L);
                for (int n : figures(l.getKey())) {
                    product = times(product, waring(n));
                }
                sum += l.getValue() * product.getOrDefault(partition, 0L);
            }
            return sum;
        }

        private static Map<String, Long> waring(int n) {
            Map<String, Long> one = new TreeMap<>();
            for (String p : PARTITIONS.get(n)) {
                long above = n * factorial(p.length() - 1);
                long below = 1;
                for (char c = '1'; c <= '6'; c++) {
                    below *= factorial(p.length() - p.replace(String.valueOf(c), "").length());
                }
                one.put(p, (n - p.length()) % 2 == 0 ? above / below : -above / below);
            }
            return one;
        }

        private static long factorial(int n) {
            return n < 2 ? 1 : n * factorial(n - 1);
        }

        static Map<String, Long> times(Map<String, Long> one, Map<String, Long> other) {
            Map<String, Long> product = new TreeMap<>();
            one.forEach((a, x) -> other.forEach((b, y) -> product.merge(sorted(figures(a + b)), x * y, Long::sum)));
            return product;
        }
    }

    private static final class Model {
        static final long VOID = Long.MIN_VALUE;
        private static final Pattern TEXT =
            Pattern.compile("(?:n[0-9]|[luwkjPS][0-9],[0-9])(?:;(?:n[0-9]|[luwkjPS][0-9],[0-9]))*");
        int wrong = 0;
        private Shape shape = new Shape(3);
        private Shape image = null;
        private final ArrayDeque<Shape> steps = new ArrayDeque<>();
        private final Object[] shelves = new Object[4];
        private String tape = "";
        private long[] trouble = null;
        private List<Integer> trace = new ArrayList<>();
        private Sum function = null;

        void due(List<String> told, String call, long got, long want) {
            told.add(call + " = " + got);
            if (got != want) {
                wrong++;
                System.out.println(call + " answered " + got + ", due is " + want);
            }
        }

        private int n() {
            return shape.weight.length;
        }

        private boolean is(int number, int least, int most) {
            return number >= least && number <= most;
        }

        private boolean point(int number) {
            return is(number, 0, n() - 1);
        }

        private void become(Shape next) {
            if (!next.isAs(shape)) {
                steps.push(shape);
                if (steps.size() > 8) {
                    steps.removeLast();
                }
                set(next);
            }
        }

        private void set(Shape next) {
            shape = next;
            function = null;
        }

        private Sum function() {
            if (function == null) {
                function = new Sum(shape.total(), shape.power());
            }
            return function;
        }

        int points(int n) {
            if (!is(n, 1, 6)) {
                return -1;
            }
            int was = n();
            become(new Shape(n));
            return was;
        }

        int weight(int point, int v) {
            if (!point(point) || !is(v, 1, 6)) {
                return -1;
            }
            Shape next = shape.copy();
            next.weight[point] = v;
            if (next.total() > 6) {
                return -5;
            }
            int was = shape.weight[point];
            become(next);
            return was;
        }

        int kind(int point, int k) {
            if (!point(point) || !is(k, 0, 4)) {
                return -1;
            }
            Shape next = shape.copy();
            next.kind[point] = k;
            int was = shape.kind[point];
            become(next);
            return was;
        }

        int line(int a, int b, int is) {
            if (!point(a) || !point(b) || a == b || !is(is, 0, 1)) {
                return -1;
            }
            Shape next = shape.copy();
            next.line[a][b] = next.line[b][a] = is == 1;
            int was = shape.line[a][b] ? 1 : 0;
            become(next);
            return was;
        }

        int joined(int a, int b) {
            if (!point(a) || !point(b) || a == b) {
                return -1;
            }
            if (!shape.line[a][b]) {
                return -5;
            }
            Shape next = shape.copy();
            next.weight[a] += next.weight[b];
            for (int i = 0; i < n(); i++) {
                if (next.line[b][i] && i != a) {
                    next.line[a][i] = next.line[i][a] = true;
                }
            }
            become(next.without(b));
            return n();
        }

        int of(int point, int what) {
            if (!point(point) || !is(what, 0, 4)) {
                return -1;
            }
            int bits = 0;
            for (int i = 0; i < n(); i++) {
                bits |= shape.line[point][i] ? 1 << i : 0;
            }
            int[] answers = {shape.kind[point], shape.weight[point], Integer.bitCount(bits), bits, shape.hanging(point)};
            return answers[what];
        }

        int partition(int w, int k, int i) {
            if (!is(w, 1, 6) || !is(k, -1, PARTITIONS.get(w).size() - 1) || k != -1 && i < -1) {
                return -1;
            }
            if (k == -1) {
                return PARTITIONS.get(w).size();
            }
            String p = PARTITIONS.get(w).get(k);
            return i == -1 ? p.length() : i < p.length() ? p.charAt(i) - '0' : -2;
        }

        long part(int basis, int k) {
            if (!is(basis, 0, 2) || !is(k, 0, PARTITIONS.get(shape.total()).size() - 1)) {
                return VOID;
            }
            String p = PARTITIONS.get(shape.total()).get(k);
            if (basis == 1) {
                return shape.colourings(p.length(), figures(p));
            }
            return basis == 0 ? function().of(p) : function().elementary(p);
        }

        long colorings(int k) {
            return is(k, 0, 9) ? shape.colourings(k, null) : VOID;
        }

        int sinks(int j) {
            return is(j, 0, n()) ? shape.sinks(j) : -1;
        }

        int peeled(int what) {
            if (!is(what, 0, 1)) {
                return -1;
            }
            if (!shape.isTree()) {
                return -5;
            }
            List<Integer> left = new ArrayList<>();
            for (int i = 0; i < n(); i++) {
                left.add(i);
            }
            int rounds = 0;
            while (left.size() > 2) {
                List<Integer> stay = new ArrayList<>();
                for (int a : left) {
                    if (left.stream().filter(b -> shape.line[a][b]).count() != 1) {
                        stay.add(a);
                    }
                }
                left = stay;
                rounds++;
            }
            return what == 0 ? rounds : left.stream().mapToInt(a -> 1 << a).sum();
        }

        int keep(int shelf, int what) {
            if (!is(shelf, 0, 3) || !is(what, 0, 1)) {
                return -1;
            }
            shelves[shelf] = what == 0 ? shape : function();
            return shape.total();
        }

        private int refused(int shelf, Class<?> sort) {
            if (!is(shelf, 0, 3)) {
                return -1;
            }
            return shelves[shelf] == null ? -11 : sort.isInstance(shelves[shelf]) ? 0 : -12;
        }

        int lay(int shelf) {
            int refused = refused(shelf, Shape.class);
            if (refused == 0) {
                become((Shape) shelves[shelf]);
                return shape.total();
            }
            return refused;
        }

        int like(int shelf) {
            int refused = refused(shelf, Shape.class);
            return refused == 0 ? shape.isLike((Shape) shelves[shelf]) ? 1 : 0 : refused;
        }

        int same(int shelf) {
            int refused = refused(shelf, Sum.class);
            if (refused != 0) {
                return refused;
            }
            Sum other = (Sum) shelves[shelf];
            boolean same = other.w == function().w;
            for (String p : PARTITIONS.get(function().w)) {
                same &= function().of(p) == other.of(p);
            }
            return same ? 1 : 0;
        }

        int weightOf(int shelf) {
            int refused = refused(shelf, Sum.class);
            return refused == 0 ? ((Sum) shelves[shelf]).w : refused;
        }

        long partOf(int shelf, int basis, int k) {
            if (refused(shelf, Sum.class) != 0) {
                return VOID;
            }
            Sum sum = (Sum) shelves[shelf];
            if (!is(basis, 0, 2) || !is(k, 0, PARTITIONS.get(sum.w).size() - 1)) {
                return VOID;
            }
            String p = PARTITIONS.get(sum.w).get(k);
            return basis == 0 ? sum.of(p) : basis == 1 ? sum.counted(p) : sum.elementary(p);
        }

        private int refusedTwo(int one, int other, int to) {
            int a = refused(one, Sum.class), b = refused(other, Sum.class);
            if (a == -1 || b == -1 || !is(to, 0, 3)) {
                return -1;
            }
            return a == -11 || b == -11 ? -11 : a == -12 || b == -12 ? -12 : 0;
        }

        int plus(int one, int other, int to, int sign) {
            if (!is(sign, 0, 1)) {
                return -1;
            }
            int refused = refusedTwo(one, other, to);
            if (refused != 0) {
                return refused;
            }
            Sum a = (Sum) shelves[one], b = (Sum) shelves[other];
            if (a.w != b.w) {
                return -5;
            }
            Map<String, Long> sum = new TreeMap<>();
            for (String p : PARTITIONS.get(a.w)) {
                sum.put(p, sign == 0 ? a.of(p) + b.of(p) : a.of(p) - b.of(p));
            }
            shelves[to] = new Sum(a.w, sum);
            return a.w;
        }

        int multiply(int one, int other, int to) {
            int refused = refusedTwo(one, other, to);
            if (refused != 0) {
                return refused;
            }
            Sum a = (Sum) shelves[one], b = (Sum) shelves[other];
            if (a.w + b.w > 6) {
                return -5;
            }
            shelves[to] = new Sum(a.w + b.w, Sum.times(a.power, b.power));
            return a.w + b.w;
        }

        int row(int shelf, int n) {
            if (!is(shelf, 0, 3) || n > 40) {
                return -1;
            }
            if (n < -1) {
                return -14;
            }
            shelves[shelf] = n == -1 ? null : new long[n];
            return 1;
        }

        int put(int shelf, int i, long v) {
            int refused = refused(shelf, long[].class);
            if (refused != 0) {
                return refused;
            }
            long[] row = (long[]) shelves[shelf];
            if (!is(i, 0, row.length - 1)) {
                return -13;
            }
            row[i] = v;
            return 1;
        }

        long get(int shelf, int i) {
            if (refused(shelf, long[].class) != 0) {
                return VOID;
            }
            long[] row = (long[]) shelves[shelf];
            return is(i, 0, row.length - 1) ? row[i] : VOID;
        }

        int film(int shelf) {
            if (!is(shelf, 0, 3)) {
                return -1;
            }
            long[] row = new long[10];
            for (int k = 0; k < 10; k++) {
                row[k] = shape.colourings(k, null);
            }
            shelves[shelf] = row;
            return 10;
        }

        int fits(int shelf, int m, int what) {
            if (!is(shelf, 0, 3) || !is(m, 0, 10) || !is(what, 0, 1)) {
                return -1;
            }
            int refused = refused(shelf, long[].class);
            if (refused != 0) {
                return refused;
            }
            long[] row = (long[]) shelves[shelf];
            if (row.length < m) {
                return -13;
            }
            List<Integer> twos = new ArrayList<>();
            for (int a = 0; a < n(); a++) {
                for (int b = a + 1; b < n(); b++) {
                    if (!shape.line[a][b]) {
                        Shape next = shape.copy();
                        next.line[a][b] = next.line[b][a] = true;
                        boolean fit = true;
                        for (int k = 0; k < m && fit; k++) {
                            fit = next.colourings(k, null) == row[k];
                        }
                        if (fit) {
                            twos.add(10 * a + b);
                        }
                    }
                }
            }
            return what == 0 ? twos.size() : twos.isEmpty() ? -2 : twos.get(0);
        }

        int judge(int shelf) {
            int refused = refused(shelf, long[].class);
            if (refused != 0) {
                return refused;
            }
            long[] row = (long[]) shelves[shelf];
            for (int a = 0; a < n(); a++) {
                if (a >= row.length) {
                    return 100 + a;
                }
                for (int b = 0; b < a; b++) {
                    if (shape.line[a][b] && row[a] == row[b]) {
                        return a;
                    }
                }
            }
            return -2;
        }

        int back() {
            if (steps.isEmpty()) {
                return -5;
            }
            set(steps.pop());
            return steps.size();
        }

        int feed(int letter) {
            if (!is(letter, 32, 126)) {
                return -1;
            }
            if (tape.length() == 80) {
                return -3;
            }
            tape += (char) letter;
            return tape.length();
        }

        int wipe() {
            int had = tape.length();
            tape = "";
            return had;
        }

        int read() {
            String text = tape;
            tape = "";
            if (TEXT.matcher(text).matches()) {
                return obey(text.split(";"));
            }
            int fault = 0;
            for (int length = 1; length <= text.length() && goesOn(text.substring(0, length)); length++) {
                fault = length;
            }
            String good = text.substring(0, fault);
            int begin = good.lastIndexOf(';') + 1;
            int ahead = (int) good.chars().filter(c -> c == ';').count();
            if (TEXT.matcher(good.substring(begin)).matches()) {
                ahead++;
            }
            trouble = new long[] {ahead, begin, fault};
            return -100 - fault;
        }

        private static boolean goesOn(String start) {
            Matcher matcher = TEXT.matcher(start);
            return matcher.matches() || matcher.hitEnd();
        }

        private int obey(String[] acts) {
            int begin = 0;
            for (int i = 0; i < acts.length; i++) {
                int answer = obey(acts[i]);
                if (answer < 0) {
                    trouble = new long[] {i, begin, answer};
                    return -200 - i;
                }
                begin += acts[i].length() + 1;
            }
            return acts.length;
        }

        private int obey(String act) {
            int a = act.charAt(1) - '0';
            int b = act.length() > 2 ? act.charAt(3) - '0' : 0;
            switch (act.charAt(0)) {
                case 'n': return points(a);
                case 'l': return line(a, b, 1);
                case 'u': return line(a, b, 0);
                case 'w': return weight(a, b);
                case 'k': return kind(a, b);
                case 'j': return joined(a, b);
                default:
                    if (!point(a) || !point(b) || b <= a) {
                        return -1;
                    }
                    for (int i = a + 1; i <= b; i++) {
                        line(act.charAt(0) == 'P' ? i - 1 : a, i, 1);
                    }
                    return 0;
            }
        }

        long why(int i, int what) {
            if (!is(i, 0, 2) || !is(what, 0, 1) || trouble == null) {
                return VOID;
            }
            return what == 0 ? i + 1 : trouble[i];
        }

        private static int above(int kind) {
            return kind == 1 || kind == 3 ? 0 : kind == 2 ? 1 : kind == 4 ? 2 : -1;
        }

        int act(int point, int act, int x) {
            if (!point(point) || !is(act, 0, 2)) {
                return 0;
            }
            trace = new ArrayList<>();
            return run(point, shape.kind[point], act, x);
        }

        /** The body of a KIND, or of the next one above that has one. */
        private int run(int point, int from, int act, int x) {
            int own = shape.kind[point];
            for (int kind = from; kind >= 0; kind = above(kind)) {
                switch (kind * 10 + act) {
                    case 0:
                        trace.add(10);
                        return x + point;
                    case 1: {
                        trace.add(11);
                        int tells = run(point, own, 2, x);
                        return tells - run(point, own, 0, 1);
                    }
                    case 10:
                        trace.add(20);
                        return run(point, above(1), 0, x) ^ 6;
                    case 22:
                        trace.add(30);
                        return run(point, above(2), 2, x) * 2;
                    case 31:
                        trace.add(40);
                        return run(point, above(3), 1, x + 1);
                    case 42:
                        trace.add(50);
                        return run(point, above(4), 2, x) - shape.weight[point];
                    case 40:
                        trace.add(51);
                        return -run(point, above(4), 0, x);
                    default:
                }
            }
            trace.add(1);
            return x + 4;
        }

        int trace(int i) {
            return is(i, 0, Math.min(24, trace.size()) - 1) ? trace.get(i) : -2;
        }

        int taken(int point, int k) {
            if (!point(point) || !is(k, 0, 4)) {
                return -1;
            }
            for (int kind = shape.kind[point]; kind >= 0; kind = above(kind)) {
                if (kind == k) {
                    return shape.weight[point];
                }
            }
            return -5;
        }

        int image() {
            image = shape;
            return n();
        }

        int undo() {
            if (image == null) {
                return -5;
            }
            set(image);
            steps.clear();
            return n();
        }

        int count(int what) {
            if (!is(what, 0, 7)) {
                return -1;
            }
            int held = 0;
            for (Object shelf : shelves) {
                held += shelf == null ? 0 : 1;
            }
            int[] answers = {n(), shape.lines().size(), shape.total(), shape.pieces(), shape.isTree() ? 1 : 0,
                steps.size(), tape.length(), held};
            return answers[what];
        }
    }
}
