import java.math.BigInteger;
import java.util.ArrayList;
import java.util.List;
import java.util.Random;
import java.util.TreeMap;

/** Long runs of calls, held against a second program that is written from the document in big numbers. */
public final class ModelTest {
    private static final long BAD = -1, STATE = -2, FULL = -3, LONG = -30;
    private static final BigInteger MOST = BigInteger.valueOf(Long.MAX_VALUE);

    private static int wrong = 0;
    private static final TreeMap<String, Integer> seen = new TreeMap<>();

    private static final class TooLong extends RuntimeException {
        private static final long serialVersionUID = 1L;
    }

    private record Fraction(BigInteger up, BigInteger down) {
        static final Fraction ZERO = whole(0), ONE = whole(1);

        static Fraction whole(long number) {
            return new Fraction(BigInteger.valueOf(number), BigInteger.ONE);
        }

        static Fraction of(BigInteger up, BigInteger down) {
            BigInteger g = fit(up).gcd(fit(down));
            if (down.signum() < 0) {
                g = g.negate();
            }
            return new Fraction(up.divide(g), down.divide(g));
        }

        static BigInteger fit(BigInteger number) {
            if (number.abs().compareTo(MOST) > 0) {
                throw new TooLong();
            }
            return number;
        }

        static BigInteger times(BigInteger a, BigInteger b) {
            return fit(a.multiply(b));
        }

        Fraction plus(Fraction o) {
            return of(fit(times(up, o.down).add(times(o.up, down))), times(down, o.down));
        }

        Fraction minus(Fraction o) {
            return of(fit(times(up, o.down).subtract(times(o.up, down))), times(down, o.down));
        }

        Fraction times(Fraction o) {
            return of(times(up, o.up), times(down, o.down));
        }

        Fraction over(Fraction o) {
            return of(times(up, o.down), times(down, o.up));
        }

        int sign() {
            return up.signum();
        }

        long part(int part) {
            return (part == 0 ? up : down).longValueExact();
        }
    }

    /** One square: its pivot, its weight, its line by index (null: none). */
    private static final class Square {
        int pivot;
        Fraction weight;
        Fraction[] line;
    }

    private static final class Model {
        int n = 2, proofs;
        List<int[][]> forms = new ArrayList<>();
        int answer, goal, condition, multiplierUp, multiplierDown, tried;
        List<Square> squares = new ArrayList<>();
        List<Integer> left = new ArrayList<>();
        List<Integer> negative = new ArrayList<>();
        Fraction[][] rest, proved;
        Fraction[] point;

        List<Integer> order() {
            List<Integer> order = new ArrayList<>();
            for (int k = 1; k <= n; k++) {
                order.add(k);
            }
            order.add(0);
            return order;
        }

        boolean noForm(int form) {
            return form < 0 || form >= forms.size();
        }

        long variables(int to) {
            if (to < 1 || to > 4) {
                return BAD;
            }
            int before = forms.size();
            n = to;
            forms.clear();
            proofs = 0;
            squares = new ArrayList<>();
            point = null;
            return before;
        }

        long form() {
            if (forms.size() == 12) {
                return FULL;
            }
            forms.add(new int[5][5]);
            return forms.size() - 1;
        }

        long term(int form, int i, int j, int v) {
            if (noForm(form) || i < 0 || j < 0 || i > n || j > n || Math.abs((long) v) > 1000000) {
                return -2000000;
            }
            int before = forms.get(form)[i][j];
            forms.get(form)[i][j] = v;
            forms.get(form)[j][i] = v;
            return before;
        }

        Fraction valueAt(int form, Fraction[] x) {
            Fraction sum = Fraction.ZERO;
            for (int i = 0; i <= n; i++) {
                for (int j = i; j <= n; j++) {
                    sum = sum.plus(Fraction.whole(forms.get(form)[i][j]).times(x[i]).times(x[j]));
                }
            }
            return sum;
        }

        long value(int form, int... whole) {
            if (noForm(form)) {
                return BAD;
            }
            Fraction[] x = {Fraction.ONE, null, null, null, null};
            for (int k = 1; k <= n; k++) {
                if (whole[k - 1] < -1000 || whole[k - 1] > 1000) {
                    return BAD;
                }
                x[k] = Fraction.whole(whole[k - 1]);
            }
            return valueAt(form, x).part(0);
        }

        Fraction[][] matrix(int form) {
            Fraction[][] m = new Fraction[5][5];
            for (int i = 0; i <= n; i++) {
                for (int j = 0; j <= n; j++) {
                    BigInteger v = BigInteger.valueOf(forms.get(form)[i][j]);
                    m[i][j] = Fraction.of(v, i == j ? BigInteger.ONE : BigInteger.TWO);
                }
            }
            return m;
        }

        void start(Fraction[][] m) {
            proved = m;
            rest = new Fraction[5][];
            for (int i = 0; i <= n; i++) {
                rest[i] = m[i].clone();
            }
            squares = new ArrayList<>();
            left = order();
            negative = new ArrayList<>();
        }

        void take(int k) {
            Square s = new Square();
            s.pivot = k;
            s.weight = rest[k][k];
            s.line = new Fraction[5];
            s.line[k] = Fraction.ONE;
            left.remove(Integer.valueOf(k));
            for (int j : left) {
                s.line[j] = rest[k][j].over(rest[k][k]);
            }
            for (int a = 0; a < left.size(); a++) {
                for (int b = a; b < left.size(); b++) {
                    int i = left.get(a), j = left.get(b);
                    rest[i][j] = rest[i][j].minus(rest[i][k].times(rest[k][j].over(rest[k][k])));
                    rest[j][i] = rest[i][j];
                }
            }
            squares.add(s);
        }

        boolean done() {
            while (true) {
                int above = -1;
                for (int k : left) {
                    if (rest[k][k].sign() < 0) {
                        negative.add(k);
                        return false;
                    }
                    if (above < 0 && rest[k][k].sign() > 0) {
                        above = k;
                    }
                }
                if (above < 0) {
                    break;
                }
                take(above);
            }
            for (int i : left) {
                for (int j : left) {
                    if (left.indexOf(i) < left.indexOf(j) && rest[i][j].sign() != 0) {
                        negative.add(i);
                        negative.add(j);
                        return false;
                    }
                }
            }
            return true;
        }

        Fraction[] solve(Fraction[] v) {
            for (int s = squares.size() - 1; s >= 0; s--) {
                Square square = squares.get(s);
                Fraction sum = Fraction.ZERO;
                for (int j : order()) {
                    if (j != square.pivot && square.line[j] != null) {
                        sum = sum.plus(square.line[j].times(v[j]));
                    }
                }
                v[square.pivot] = Fraction.ZERO.minus(sum);
            }
            return v;
        }

        Fraction[] zeros() {
            Fraction[] v = new Fraction[5];
            for (int k : left) {
                v[k] = Fraction.ZERO;
            }
            return v;
        }

        Fraction[] pointOf(int form) {
            Fraction[] v = zeros();
            int i = negative.get(0);
            v[i] = Fraction.ONE;
            if (negative.size() == 2) {
                int j = negative.get(1);
                v[j] = Fraction.whole(rest[i][j].sign() > 0 ? -1 : 1);
            }
            solve(v);
            Fraction[] x = {Fraction.ONE, null, null, null, null};
            if (v[0].sign() != 0) {
                for (int k = 1; k <= n; k++) {
                    x[k] = v[k].over(v[0]);
                }
                return x;
            }
            for (long t = 1; t <= 1L << 40; t *= 2) {
                for (int k = 1; k <= n; k++) {
                    x[k] = Fraction.whole(t).times(v[k]);
                }
                if (valueAt(form, x).sign() < 0) {
                    return x;
                }
            }
            throw new TooLong();
        }

        long plain(int form) {
            if (noForm(form)) {
                return BAD;
            }
            Model other = new Model();
            other.n = n;
            other.start(matrix(form));
            int above = 0, turn = 0;
            try {
                for (int k : order()) {
                    if (other.rest[k][k].sign() == 0) {
                        return -10 - turn;
                    }
                    Fraction.ONE.over(other.rest[k][k]);
                    above += other.rest[k][k].sign() > 0 ? 1 : 0;
                    other.take(k);
                    turn++;
                }
            } catch (TooLong e) {
                return LONG;
            }
            return above;
        }

        void begin(int goal, int condition) {
            proofs++;
            this.goal = goal;
            this.condition = condition;
            multiplierUp = 0;
            multiplierDown = 1;
            tried = 0;
            point = null;
        }

        long prove(int form) {
            if (noForm(form)) {
                return BAD;
            }
            begin(form, -1);
            start(matrix(form));
            try {
                answer = 1;
                if (!done()) {
                    answer = 0;
                    point = pointOf(form);
                }
            } catch (TooLong e) {
                if (!negative.isEmpty()) {
                    note("prove: the point is too long");
                }
                answer = 2;
            }
            if (answer != 1) {
                squares = new ArrayList<>();
            }
            return answer;
        }

        boolean doneWith(int p, int q) {
            tried++;
            try {
                Fraction[][] m = matrix(goal), c = matrix(condition);
                Fraction multiplier = new Fraction(BigInteger.valueOf(p), BigInteger.valueOf(q));
                for (int i = 0; i <= n; i++) {
                    for (int j = 0; j <= n; j++) {
                        m[i][j] = m[i][j].minus(multiplier.times(c[i][j]));
                    }
                }
                start(m);
                return done();
            } catch (TooLong e) {
                note("under: too long, passed over");
                return false;
            }
        }

        boolean pointFrom(int k, Fraction[] x) {
            if (k > n) {
                return valueAt(condition, x).sign() >= 0 && valueAt(goal, x).sign() < 0;
            }
            for (int whole = -3; whole <= 3; whole++) {
                x[k] = Fraction.whole(whole);
                if (pointFrom(k + 1, x)) {
                    return true;
                }
            }
            return false;
        }

        long under(int goal, int condition, int finer) {
            if (noForm(goal) || noForm(condition) || finer < 1 || finer > 20) {
                return BAD;
            }
            begin(goal, condition);
            for (int s = 1; s <= finer; s++) {
                for (int q = 1; q <= s; q++) {
                    if (BigInteger.valueOf(s - q).gcd(BigInteger.valueOf(q)).intValue() == 1 && doneWith(s - q, q)) {
                        multiplierUp = s - q;
                        multiplierDown = q;
                        return answer = 1;
                    }
                }
            }
            squares = new ArrayList<>();
            Fraction[] x = {Fraction.ONE, null, null, null, null};
            if (pointFrom(1, x)) {
                point = x;
                return answer = 0;
            }
            return answer = 2;
        }

        long told(int what) {
            if (what < 0 || what > 6) {
                return BAD;
            }
            if (proofs == 0) {
                return STATE;
            }
            int[] all = {answer, squares.size(), goal, condition, multiplierUp, multiplierDown, tried};
            return all[what];
        }

        boolean noSquare(int i, int part) {
            return i < 0 || i >= squares.size() || part < 0 || part > 1;
        }

        long weight(int i, int part) {
            return noSquare(i, part) ? 0 : squares.get(i).weight.part(part);
        }

        long line(int i, int k, int part) {
            if (noSquare(i, part) || k < 0 || k > n) {
                return 0;
            }
            Fraction at = squares.get(i).line[k];
            return at == null ? part : at.part(part);
        }

        long point(int k, int part) {
            return point == null || k < 1 || k > n || part < 0 || part > 1 ? 0 : point[k].part(part);
        }

        long near(int i) {
            return noSquare(i, 0) ? 0 : Double.doubleToLongBits((double) weight(i, 0) / (double) weight(i, 1));
        }

        long plant(int i, long up, long down) {
            if (noSquare(i, 0) || down == 0) {
                return BAD;
            }
            try {
                squares.get(i).weight = Fraction.of(BigInteger.valueOf(up), BigInteger.valueOf(down));
            } catch (TooLong e) {
                return LONG;
            }
            return 0;
        }

        long check() {
            if (proofs == 0 || answer != 1) {
                return STATE;
            }
            boolean same = true;
            try {
                for (int i = 0; i <= n; i++) {
                    for (int j = 0; j <= n; j++) {
                        Fraction sum = Fraction.ZERO;
                        for (Square s : squares) {
                            Fraction a = s.line[i] == null ? Fraction.ZERO : s.line[i];
                            Fraction b = s.line[j] == null ? Fraction.ZERO : s.line[j];
                            sum = sum.plus(s.weight.times(a).times(b));
                        }
                        same &= sum.equals(proved[i][j]);
                    }
                }
            } catch (TooLong e) {
                return 2;
            }
            return same ? 1 : 0;
        }

        long equal() {
            if (proofs == 0 || answer != 1) {
                return STATE;
            }
            point = null;
            if (!left.contains(0)) {
                return 0;
            }
            try {
                Fraction[] v = zeros();
                v[0] = Fraction.ONE;
                point = solve(v);
            } catch (TooLong e) {
                return 2;
            }
            return 1;
        }

        long count(int what) {
            return what == 0 ? n : what == 1 ? forms.size() : what == 2 ? proofs : BAD;
        }
    }

    private static void note(String what) {
        seen.merge(what, 1, Integer::sum);
    }

    private static void due(String call, long got, long want) {
        if (got != want && wrong++ < 20) {
            System.out.println(call + " answered " + got + ", due is " + want);
        }
    }

    private final Random random;
    private final SquareSums program = new SquareSums();
    private final Model model = new Model();
    private final int size;

    private ModelTest(long seed) {
        random = new Random(seed);
        int[] sizes = {1, 2, 3, 10, 100, 1000, 30000, 1000000};
        size = sizes[random.nextInt(sizes.length)];
    }

    private int in(int from, int to) {
        return from + random.nextInt(to - from + 1);
    }

    private int someForm() {
        return random.nextInt(30) == 0 ? in(-1, 12) : in(0, Math.max(0, model.forms.size() - 1));
    }

    private void setTerm(int form, int i, int j, int v) {
        String call = "term(" + form + ", " + i + ", " + j + ", " + v + ")";
        due(call, program.term(form, i, j, v), model.term(form, i, j, v));
    }

    /** A form that is a sum of squares of lines, less a little at times: plain random ones are seldom proved. */
    private void setSquares(int form) {
        if (model.noForm(form)) {
            return;
        }
        int[][] v = new int[5][5];
        int most = Math.max(1, (int) Math.sqrt(size / 3.0));
        for (int square = in(1, model.n + 1); square > 0; square--) {
            int[] line = new int[5];
            for (int k = 0; k <= model.n; k++) {
                line[k] = random.nextInt(3) == 0 ? 0 : in(-most, most);
            }
            for (int i = 0; i <= model.n; i++) {
                for (int j = i; j <= model.n; j++) {
                    v[i][j] += line[i] * line[j] * (i == j ? 1 : 2);
                }
            }
        }
        if (random.nextInt(3) == 0) {
            v[0][0] -= in(0, 2);
        }
        for (int i = 0; i <= model.n; i++) {
            for (int j = i; j <= model.n; j++) {
                setTerm(form, i, j, Math.max(-1000000, Math.min(1000000, v[i][j])));
            }
        }
    }

    private void setRandom(int form) {
        boolean diagonal = random.nextBoolean();
        for (int i = 0; i <= model.n; i++) {
            for (int j = i; j <= model.n; j++) {
                int v = random.nextInt(4) == 0 ? 0 : in(-size, size);
                setTerm(form, j, i, diagonal && i == j ? Math.abs(v) : v);
            }
        }
    }

    private void call() {
        switch (in(0, 15)) {
            case 0 -> {
                if (random.nextInt(8) == 0) {
                    int n = in(0, 5);
                    due("variables(" + n + ")", program.variables(n), model.variables(n));
                }
            }
            case 1 -> due("form()", program.form(), model.form());
            case 2 -> setTerm(someForm(), in(-1, 5), in(-1, 5), in(-size - 1, size + 1));
            case 3, 4 -> setSquares(someForm());
            case 5 -> setRandom(someForm());
            case 6 -> callValue();
            case 7 -> {
                int form = someForm();
                long answer = program.plain(form);
                due("plain(" + form + ")", answer, model.plain(form));
                note("plain " + answer);
            }
            case 8, 9, 10 -> {
                int form = someForm();
                long answer = program.prove(form);
                due("prove(" + form + ")", answer, model.prove(form));
                note("prove " + answer);
            }
            case 11, 12 -> callUnder();
            case 13 -> callPlant();
            case 14 -> {
                long answer = program.check();
                due("check()", answer, model.check());
                note("check " + answer);
            }
            default -> {
                long answer = program.equal();
                due("equal()", answer, model.equal());
                note("equal " + answer);
            }
        }
    }

    private void callValue() {
        int form = someForm();
        int a = in(-1001, 1001), b = in(-1001, 1001), c = in(-1001, 1001), d = in(-1001, 1001);
        due("value(" + form + ", " + a + ", " + b + ", " + c + ", " + d + ")", program.value(form, a, b, c, d),
            model.value(form, a, b, c, d));
    }

    private void callUnder() {
        int goal = someForm(), condition = someForm(), finer = random.nextInt(10) == 0 ? in(0, 21) : in(1, 6);
        long answer = program.under(goal, condition, finer);
        due("under(" + goal + ", " + condition + ", " + finer + ")", answer, model.under(goal, condition, finer));
        note("under " + answer);
    }

    private void callPlant() {
        int i = in(-1, Math.max(0, model.squares.size()));
        long up = random.nextLong() >> random.nextInt(64), down = random.nextLong() >> random.nextInt(64);
        if (random.nextInt(10) == 0) {
            up = Long.MIN_VALUE;
        }
        if (random.nextInt(3) == 0) {
            up = model.weight(i, 0);
            down = model.weight(i, 1);
        }
        long answer = program.plant(i, up, down);
        due("plant(" + i + ", " + up + ", " + down + ")", answer, model.plant(i, up, down));
        note("plant " + answer);
    }

    private void compare() {
        for (int what = -1; what <= 7; what++) {
            due("told(" + what + ")", program.told(what), model.told(what));
            due("count(" + what + ")", program.count(what), model.count(what));
        }
        for (int i = -1; i <= 5; i++) {
            due("near(" + i + ")", program.near(i), model.near(i));
            for (int part = -1; part <= 2; part++) {
                due("weight(" + i + ", " + part + ")", program.weight(i, part), model.weight(i, part));
                due("point(" + i + ", " + part + ")", program.point(i, part), model.point(i, part));
                for (int k = -1; k <= 5; k++) {
                    due("line(" + i + ", " + k + ", " + part + ")", program.line(i, k, part), model.line(i, k, part));
                }
            }
        }
    }

    private void run() {
        int n = in(1, 4);
        due("variables(" + n + ")", program.variables(n), model.variables(n));
        for (int forms = in(1, 3); forms > 0; forms--) {
            due("form()", program.form(), model.form());
            setSquares(model.forms.size() - 1);
        }
        for (int calls = 0; calls < 60; calls++) {
            call();
            compare();
        }
    }

    public static void main(String[] args) {
        int runs = args.length > 0 ? Integer.parseInt(args[0]) : 2000;
        for (int seed = 0; seed < runs && wrong == 0; seed++) {
            new ModelTest(seed).run();
            if (wrong != 0) {
                System.out.println("in the run of seed " + seed);
            }
        }
        System.out.println("answers seen: " + seen);
        System.out.println(wrong == 0 ? "all answers are as due" : wrong + " answers are not as due");
        if (wrong != 0) {
            System.exit(1);
        }
    }
}
