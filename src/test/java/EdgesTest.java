/** The sentences of the document that name a boundary, one test each: the last that is taken and the first beyond. */
public final class EdgesTest {
    private static final long MOST = Long.MAX_VALUE, LEAST = Long.MIN_VALUE;

    private static int wrong = 0;
    private static String sentence = "";

    private static void due(String call, long got, long want) {
        if (got != want) {
            wrong++;
            System.out.println("'" + sentence + "': " + call + " answered " + got + ", due is " + want);
        }
    }

    private static SquareSums of(int n) {
        SquareSums x = new SquareSums();
        x.variables(n);
        return x;
    }

    /** A new form with numbers told as i, j, v, i, j, v, .. */
    private static int formOf(SquareSums x, int... terms) {
        int form = x.form();
        for (int at = 0; at < terms.length; at += 3) {
            if (x.term(form, terms[at], terms[at + 1], terms[at + 2]) != 0) {
                wrong++;
                System.out.println("'" + sentence + "': a term of a new form was refused or not 0");
            }
        }
        return form;
    }

    /** An object of n variables with one form. */
    private static SquareSums with(int n, int... terms) {
        SquareSums x = of(n);
        formOf(x, terms);
        return x;
    }

    private static void dueWeight(SquareSums x, int i, long up, long down) {
        due("weight(" + i + ", 0)", x.weight(i, 0), up);
        due("weight(" + i + ", 1)", x.weight(i, 1), down);
    }

    private static void dueLine(SquareSums x, int i, int k, long up, long down) {
        due("line(" + i + ", " + k + ", 0)", x.line(i, k, 0), up);
        due("line(" + i + ", " + k + ", 1)", x.line(i, k, 1), down);
    }

    /** The point, told as whole numbers. */
    private static void duePoint(SquareSums x, long... whole) {
        for (int k = 1; k <= whole.length; k++) {
            due("point(" + k + ", 0)", x.point(k, 0), whole[k - 1]);
            due("point(" + k + ", 1)", x.point(k, 1), 1);
        }
    }

    private static void dueNoPoint(SquareSums x) {
        for (int k = 0; k <= 5; k++) {
            due("point(" + k + ", 0)", x.point(k, 0), 0);
            due("point(" + k + ", 1)", x.point(k, 1), 0);
        }
    }

    private static void dueNoSquares(SquareSums x) {
        for (int i = 0; i < 5; i++) {
            dueWeight(x, i, 0, 0);
            due("near(" + i + ")", x.near(i), 0);
            due("plant(" + i + ", 1, 1)", x.plant(i, 1, 1), -1);
            for (int k = 0; k <= 4; k++) {
                dueLine(x, i, k, 0, 0);
            }
        }
    }

    private static void constants() {
        sentence = "BAD = -1, STATE = -2, FULL = -3, LONG = -30";
        due("BAD", SquareSums.BAD, -1);
        due("STATE", SquareSums.STATE, -2);
        due("FULL", SquareSums.FULL, -3);
        due("LONG", SquareSums.LONG, -30);
    }

    // ---- promises 1 to 4, and 1 VARIABLES

    private static void newObject() {
        sentence = "Two VARIABLES, no FORMS.";
        SquareSums x = new SquareSums();
        due("count(0)", x.count(0), 2);
        due("count(1)", x.count(1), 0);
        due("count(2)", x.count(2), 0);
        due("term", x.term(0, 0, 0, 0), -2000000);
        due("value", x.value(0, 0, 0, 0, 0), -1);
        due("plain", x.plain(0), -1);
        due("prove", x.prove(0), -1);
        due("under", x.under(0, 0, 1), -1);
        for (int what = 0; what <= 6; what++) {
            due("told(" + what + ")", x.told(what), -2);
        }
        due("check", x.check(), -2);
        due("equal", x.equal(), -2);
        dueNoSquares(x);
        dueNoPoint(x);
        due("form", x.form(), 0);
        due("X 2 is there", x.term(0, 2, 2, 5), 0);
        due("X 3 is not", x.term(0, 3, 3, 5), -2000000);
        due("variables", new SquareSums().variables(2), 0);
    }

    private static void numberOfVariables() {
        sentence = "X n (n is 1 to 4; 2 at first)";
        for (int n = 1; n <= 4; n++) {
            SquareSums x = new SquareSums();
            due("variables(" + n + ")", x.variables(n), 0);
            due("count(0)", x.count(0), n);
            int form = x.form();
            for (int k = 0; k <= n; k++) {
                due("term at " + k, x.term(form, k, k, k + 1), 0);
            }
            due("term beyond", x.term(form, n + 1, n + 1, 1), -2000000);
            due("prove", x.prove(form), 1);
            due("a square for each, and for X 0", x.told(1), n + 1);
            dueWeight(x, n - 1, n + 1, 1);
            dueWeight(x, n, 1, 1);
            dueLine(x, n, 0, 1, 1);
            dueWeight(x, n + 1, 0, 0);
            due("line beyond", x.line(0, n + 1, 1), 0);
        }
        SquareSums x = new SquareSums();
        for (int n : new int[] {0, 5, -1, Integer.MIN_VALUE, Integer.MAX_VALUE}) {
            due("variables(" + n + ")", x.variables(n), -1);
            due("count(0)", x.count(0), 2);
        }
    }

    private static void variablesAnew() {
        sentence = "There are n VARIABLES, no FORMS, nothing proved: how many FORMS there were.";
        for (int forms = 0; forms <= 12; forms++) {
            SquareSums x = new SquareSums();
            for (int form = 0; form < forms; form++) {
                x.form();
            }
            due("variables(2), the same number", x.variables(2), forms);
            due("variables(2) again", x.variables(2), 0);
        }
        SquareSums x = with(2, 1, 1, 1, 0, 0, 3);
        formOf(x, 0, 0, -1);
        for (int form = 0; form <= 1; form++) {
            due("prove", x.prove(form), 1 - form);
            due("variables", x.variables(2), 2);
            due("count(1)", x.count(1), 0);
            due("count(2)", x.count(2), 0);
            due("told(0)", x.told(0), -2);
            due("check", x.check(), -2);
            due("equal", x.equal(), -2);
            due("prove", x.prove(form), -1);
            dueNoSquares(x);
            dueNoPoint(x);
            formOf(x, 1, 1, 1, 0, 0, 3);
            formOf(x, 0, 0, -1);
        }
    }

    private static void twelveForms() {
        sentence = "A FORM (12 at most, numbered from 0 on)";
        SquareSums x = new SquareSums();
        for (int number = 0; number < 12; number++) {
            due("not yet there", x.prove(number), -1);
            due("form()", x.form(), number);
            due("there", x.term(number, 0, 0, number), 0);
        }
        due("form(), the thirteenth", x.form(), -3);
        due("form() again", x.form(), -3);
        due("count(1)", x.count(1), 12);
        for (int number = 0; number < 12; number++) {
            due("value(" + number + ")", x.value(number, 0, 0, 0, 0), number);
        }
        due("prove(11)", x.prove(11), 1);
        due("prove(12)", x.prove(12), -1);
        due("under(11, 0, 1)", x.under(11, 0, 1), 1);
        due("under(0, 11, 1)", x.under(0, 11, 1), 1);
        due("under(12, 0, 1)", x.under(12, 0, 1), -1);
        due("under(0, 12, 1)", x.under(0, 12, 1), -1);
        due("plain(11)", x.plain(11), -10);
        due("plain(12)", x.plain(12), -1);
        due("variables(4)", x.variables(4), 12);
        due("form()", x.form(), 0);
    }

    private static void numbersAtFirst() {
        sentence = "all v 0 at first";
        SquareSums x = of(4);
        for (int round = 0; round < 2; round++) {
            for (int form = 0; form < 12; form++) {
                x.form();
                for (int i = 0; i <= 4; i++) {
                    for (int j = i; j <= 4; j++) {
                        due("term(" + form + ", " + i + ", " + j + ")", x.term(form, i, j, 7), 0);
                    }
                }
            }
            x.variables(4);
        }
    }

    private static void termEdges() {
        sentence = "v i j (i and j either way about) becomes another number (-1000000 .. 1000000): what it was.";
        for (int n = 1; n <= 4; n++) {
            SquareSums x = with(n);
            int number = 0;
            for (int i = 0; i <= n; i++) {
                for (int j = i; j <= n; j++) {
                    number++;
                    due("term", x.term(0, i, j, number), 0);
                    due("either way about", x.term(0, j, i, -number), number);
                    due("the same again", x.term(0, i, j, -number), -number);
                }
            }
            due("i beyond", x.term(0, n + 1, 0, 1), -2000000);
            due("j beyond", x.term(0, 0, n + 1, 1), -2000000);
            due("i below", x.term(0, -1, 0, 1), -2000000);
            due("j below", x.term(0, 0, -1, 1), -2000000);
        }
        SquareSums x = with(1);
        due("most", x.term(0, 0, 1, 1000000), 0);
        due("beyond", x.term(0, 0, 1, 1000001), -2000000);
        due("least", x.term(0, 0, 1, -1000000), 1000000);
        due("below", x.term(0, 0, 1, -1000001), -2000000);
        due("0", x.term(0, 0, 1, 0), -1000000);
        due("it was 0", x.term(0, 1, 0, 0), 0);
    }

    private static void halves() {
        sentence = "v i i at i i, and half of v i j at i j and j i";
        SquareSums x = with(1, 1, 1, 1, 0, 1, 1, 0, 0, 1);
        due("prove", x.prove(0), 1);
        dueLine(x, 0, 0, 1, 2);
        dueWeight(x, 1, 3, 4);
        due("check", x.check(), 1);
        x = with(1, 1, 1, 1, 1, 0, -1000000, 0, 0, 1000000);
        due("prove", x.prove(0), 0);
        duePoint(x, 500000);
    }

    // ---- promise 5

    private static void valueEdges() {
        sentence = "The FORM at whole X 1 .. X 4 (-1000 .. 1000; those that are no VARIABLES are not looked at).";
        int least = Integer.MIN_VALUE, most = Integer.MAX_VALUE;
        for (int n = 1; n <= 4; n++) {
            SquareSums x = with(n);
            for (int k = 1; k <= n; k++) {
                x.term(0, 0, k, 1);
            }
            for (int k = 1; k <= 4; k++) {
                for (int at : new int[] {-1000, 1000, -1001, 1001, least, most}) {
                    int[] whole = {0, 0, 0, 0};
                    whole[k - 1] = at;
                    boolean taken = at == -1000 || at == 1000;
                    long want = k > n ? 0 : taken ? at : -1;
                    due("n " + n + ", X " + k + " at " + at, x.value(0, whole[0], whole[1], whole[2], whole[3]), want);
                }
            }
            due("no form", x.value(1, 0, 0, 0, 0), -1);
            due("form below", x.value(-1, 0, 0, 0, 0), -1);
        }
        SquareSums x = with(4);
        for (int i = 0; i <= 4; i++) {
            for (int j = i; j <= 4; j++) {
                x.term(0, i, j, 1000000);
            }
        }
        due("largest", x.value(0, 1000, 1000, 1000, 1000), 1000000L * (1 + 4 * 1000 + 10 * 1000000));
        for (int i = 0; i <= 4; i++) {
            for (int j = i; j <= 4; j++) {
                x.term(0, i, j, -1000000);
            }
        }
        due("lowest", x.value(0, 1000, 1000, 1000, 1000), -1000000L * (1 + 4 * 1000 + 10 * 1000000));
        due("X 0 is 1", x.value(0, 0, 0, 0, 0), -1000000);
        due("signs", x.value(0, -1000, 1000, 0, 0), -1000000L * (1 + 1000000));
    }

    // ---- promise 6

    private static void plainTurns() {
        sentence = "-10 less the number of the turn (from 0 on) that would divide by 0";
        for (int n = 1; n <= 4; n++) {
            for (int zero = 0; zero <= n; zero++) {
                SquareSums x = with(n);
                for (int turn = 0; turn <= n; turn++) {
                    int k = turn == n ? 0 : turn + 1;
                    x.term(0, k, k, turn == zero ? 0 : turn % 2 == 0 ? 3 : -3);
                }
                due("n " + n + ", 0 in turn " + zero, x.plain(0), -10 - zero);
            }
        }
        sentence = "each M k k in turn is a PIVOT: how many of them are above 0";
        for (int n = 1; n <= 4; n++) {
            for (int above = 0; above <= n + 1; above++) {
                SquareSums x = with(n);
                for (int turn = 0; turn <= n; turn++) {
                    int k = turn == n ? 0 : turn + 1;
                    x.term(0, k, k, turn < above ? 1 : -1);
                }
                due("n " + n + ", above " + above, x.plain(0), above);
            }
        }
        // X1^2 + 2 X1 X2 + X2^2 + ..: in turn 1 it is 0 only by what turn 0 did
        due("0 in turn 1", with(2, 1, 1, 1, 1, 2, 2, 2, 2, 1, 0, 0, 5).plain(0), -11);
        // the first is 0, though another could be taken first
        due("0 in turn 0", with(2, 2, 2, 1, 0, 0, 1, 1, 2, 3).plain(0), -10);
        // X1^2 + 4 X1 + 3: 3 less 4; with 4 the last turn has 0, with 5 it has 1
        due("last below", with(1, 1, 1, 1, 0, 1, 4, 0, 0, 3).plain(0), 1);
        due("last 0", with(1, 1, 1, 1, 0, 1, 4, 0, 0, 4).plain(0), -11);
        due("last above", with(1, 1, 1, 1, 0, 1, 4, 0, 0, 5).plain(0), 2);
    }

    private static void plainTooLong() {
        sentence = "LONG: something is TOO LONG.";
        // in turn 1 -2^35 is multiplied by 2^28 / (2^28 - 1): -2^63, the least long
        due("product", with(2, 1, 1, 2, 1, 2, 524288, 0, 1, 524288, 2, 2, 128, 0, 0, 65536).plain(0), -30);
        due("fits", with(2, 1, 1, 2, 1, 2, 524288, 0, 1, 262144, 2, 2, 128, 0, 0, 65536).plain(0), 2);
        // in turn 1 -2^40 + 2^15 less 2^63 - 2^40 + 2^15: -2^63
        due("difference", with(2, 1, 1, 524288, 1, 2, 32, 0, 1, -8, 2, 2, 16384, 0, 2, -4096).plain(0), -30);
        due("fits", with(2, 1, 1, 524288, 1, 2, 32, 0, 1, -8, 2, 2, 16384, 0, 2, -4096, 0, 0, 1).plain(0), 2);
        due("difference of 2^63", with(2, 1, 1, -524288, 1, 2, -32, 0, 1, 8, 2, 2, -16384, 0, 2, 4096).plain(0), -30);
        due("fits", with(2, 1, 1, -524288, 1, 2, -32, 0, 1, 8, 2, 2, -16384, 0, 2, 4096, 0, 0, -1).plain(0), 1);
        // in turn 1 6999950 / 7 less -198999^2 / (7 * 188233421252): above the line it is 2^63 - 1
        due("difference of 2^63 - 1", with(2, 1, 1, 7, 1, 2, 867712, 0, 1, 2, 2, 2, -341788, 0, 2, 67102,
            0, 0, 999993).plain(0), 2);
        due("difference of -(2^63 - 1)", with(2, 1, 1, -7, 1, 2, -867712, 0, 1, -2, 2, 2, 341788, 0, 2, -67102,
            0, 0, -999993).plain(0), 1);
        // the left product of a difference is -2^63
        due("left product", with(3, 1, 1, 2, 1, 3, 524288, 0, 1, 16, 2, 2, 64, 2, 3, -256, 0, 2, 131072, 3, 3, 256,
            0, 3, -524289, 0, 0, 32).plain(0), -30);
        // the right product is 2^63, which does not fit; a step less far it is 2^61
        due("right product", with(3, 1, 1, 524288, 1, 3, 1, 2, 2, 262144, 3, 3, 64, 0, 0, 131072, 0, 2, -128,
            0, 3, -524288).plain(0), -30);
        due("fits", with(3, 1, 1, 524288, 1, 3, 1, 2, 2, 262144, 3, 3, 64, 0, 0, 131072, 0, 2, -256,
            0, 3, -524288).plain(0), 3);
    }

    // ---- FRACTIONS

    /** (X1 + c)^2 + 1 for two squares, (X1 + c)^2 for one. */
    private static SquareSums line(int c, boolean second) {
        SquareSums x = with(1, 1, 1, 1, 0, 1, 2 * c, 0, 0, c * c + (second ? 1 : 0));
        due("prove", x.prove(0), 1);
        due("check", x.check(), 1);
        return x;
    }

    private static int checkWith(SquareSums x, long up, long down) {
        due("plant " + up + " / " + down, x.plant(0, up, down), 0);
        return x.check();
    }

    private static void productEdges() {
        sentence = "where one of these products does not fit in a long, or is the least long, it is TOO LONG";
        due("the most times 1", checkWith(line(1, false), MOST, 1), 0);
        due("the most times -1", checkWith(line(-1, false), MOST, 1), 0);
        due("2^62 - 1 times 2 fits, 2^63 - 2 times 2 does not", checkWith(line(2, false), (1L << 62) - 1, 1), 2);
        due("(2^61 - 1) * 2 * 2", checkWith(line(2, false), (1L << 61) - 1, 1), 0);
        due("2^61 * 2 * 2 is 2^63", checkWith(line(2, false), 1L << 61, 1), 2);
        due("-2^61 * 2 * 2 is the least long", checkWith(line(2, false), -(1L << 61), 1), 2);
        due("2^61 * -2 is -2^62, * -2 is 2^63", checkWith(line(-2, false), 1L << 61, 1), 2);
        due("-(2^61 - 1) * 2 * 2", checkWith(line(2, false), 1 - (1L << 61), 1), 0);
        due("2^63 - 1 is 49 times a number", checkWith(line(7, false), MOST / 49, 1), 0);
        due("-(2^63 - 1)", checkWith(line(7, false), -(MOST / 49), 1), 0);
        due("one more", checkWith(line(7, false), MOST / 49 + 1, 1), 2);
        due("one less", checkWith(line(7, false), -(MOST / 49) - 1, 1), 2);
        due("-2^62 times 2", checkWith(line(2, false), -(1L << 62), 1), 2);
        sentence = "products of the downs";
        // 49 (X1 + 1 / 7)^2: the line has 1 / 7 at X 0
        int[] seventh = {1, 1, 49, 0, 1, 14, 0, 0, 1};
        int[] half = {1, 1, 4, 0, 1, 4, 0, 0, 1};
        due("down is the most", checkWith(proved(seventh), 1, MOST / 49), 0);
        due("down is beyond", checkWith(proved(seventh), 1, MOST / 49 + 1), 2);
        due("down is 2^63 - 4", checkWith(proved(half), 1, (1L << 61) - 1), 0);
        due("down is 2^63", checkWith(proved(half), 1, 1L << 61), 2);
        due("down is 2^63 already", checkWith(proved(half), 1, 1L << 62), 2);
        due("lowest terms come behind the products", checkWith(proved(half), 1L << 61, 1), 0);
    }

    private static SquareSums proved(int... terms) {
        SquareSums x = with(1, terms);
        due("prove", x.prove(0), 1);
        due("told(1)", x.told(1), 1);
        return x;
    }

    private static int checkOfSum(long up, long down, long otherUp, long otherDown) {
        SquareSums x = line(1, true);
        due("plant(0)", x.plant(0, up, down), 0);
        due("plant(1)", x.plant(1, otherUp, otherDown), 0);
        return x.check();
    }

    private static void sumEdges() {
        sentence = "where one of these sums does not fit in a long, or is the least long, it is TOO LONG";
        due("the most", checkOfSum(MOST - 1, 1, 1, 1), 0);
        due("one more", checkOfSum(MOST, 1, 1, 1), 2);
        due("the most and the most", checkOfSum(MOST, 1, MOST, 1), 2);
        due("least but one", checkOfSum(1 - MOST, 1, -1, 1), 0);
        due("the least", checkOfSum(-MOST, 1, -1, 1), 2);
        due("less than the least", checkOfSum(-MOST, 1, -2, 1), 2);
        due("the most and its contrary", checkOfSum(MOST, 1, -MOST, 1), 0);
        due("a * d", checkOfSum((1L << 62) - 1, 1, 1, 2), 0);
        due("a * d is 2^63", checkOfSum(1L << 62, 1, 1, 2), 2);
        due("a * d is the least, though the sum would fit", checkOfSum(-(1L << 62), 1, 1, 2), 2);
        due("a * d does not fit, though the sum would", checkOfSum(MOST, 1, -MOST, 2), 2);
        due("c * b", checkOfSum(1, 2, (1L << 62) - 1, 1), 0);
        due("c * b is 2^63", checkOfSum(-1, 2, 1L << 62, 1), 2);
        due("c * b is the least", checkOfSum(1, 2, -(1L << 62), 1), 2);
        due("b * d is 2^62", checkOfSum(1, 1L << 31, 1, 1L << 31), 0);
        due("b * d is 2^63, though a lower one would do", checkOfSum(1, 1L << 32, 1, 1L << 31), 2);
        due("b * d fits", checkOfSum(1, MOST / 7, 1, 7), 0);
        due("b * d does not", checkOfSum(1, MOST / 7, 1, 8), 2);
        sentence = "the sum, from 0 on";
        due("a down alone", checkOfSum(1, MOST, 0, 1), 0);
        due("a down behind another", checkOfSum(0, 1, 1, MOST), 0);
        due("all 0", checkOfSum(0, 5, 0, -5), 0);
        due("1 and 1", checkOfSum(5, 5, -7, -7), 1);
    }

    private static void lowestTerms() {
        sentence = "FRACTIONS are up / down in lowest terms, down above 0";
        long[][] all = {{6, 4, 3, 2}, {6, -4, -3, 2}, {-6, 4, -3, 2}, {-6, -4, 3, 2}, {0, 7, 0, 1}, {0, -7, 0, 1},
            {MOST, MOST, 1, 1}, {MOST, -MOST, -1, 1}, {-MOST, -MOST, 1, 1}, {MOST, 1, MOST, 1}, {1, MOST, 1, MOST},
            {-1, MOST, -1, MOST}, {1, -MOST, -1, MOST}, {-MOST, 1, -MOST, 1}, {MOST, 7, MOST / 7, 1},
            {MOST - 1, 2, (1L << 62) - 1, 1}, {1L << 62, 1L << 61, 2, 1}, {1L << 61, -(1L << 62), -1, 2}, {1, 1, 1, 1},
            {7540113804746346429L, 4660046610375530309L, 7540113804746346429L, 4660046610375530309L}};
        SquareSums x = line(1, true);
        for (long[] one : all) {
            due("plant " + one[0] + " / " + one[1], x.plant(1, one[0], one[1]), 0);
            dueWeight(x, 1, one[2], one[3]);
        }
    }

    // ---- 2 ELIMINATION

    private static void firstBelow() {
        sentence = "if there are LEFT k with M k k below 0: NEGATIVE, by the first such k (of THE ORDER)";
        SquareSums x = with(2, 1, 1, -1, 2, 2, -1, 0, 0, -1);
        due("all below", x.prove(0), 0);
        duePoint(x, 1, 0);
        x = with(2, 2, 2, -1, 0, 0, -1);
        due("X 2 ahead of X 0", x.prove(0), 0);
        duePoint(x, 0, 1);
        x = with(2, 0, 0, -1);
        due("X 0", x.prove(0), 0);
        duePoint(x, 0, 0);
        x = with(4, 1, 1, 1, 2, 2, 1, 3, 3, 1, 4, 4, -1);
        due("X 4, ahead of all pivots", x.prove(0), 0);
        duePoint(x, 0, 0, 0, 1);
        x = with(2, 1, 1, 1, 1, 2, 2, 2, 2, -1);
        due("below comes ahead of above", x.prove(0), 0);
        duePoint(x, 0, 1);
        sentence = "below 0, 0, above 0";
        for (int c = 0; c <= 2; c++) {
            x = with(1, 1, 1, 1, 0, 1, 2, 0, 0, c);
            due("(X1 + 1)^2 + " + (c - 1), x.prove(0), c == 0 ? 0 : 1);
            due("squares", x.told(1), c);
        }
        x = with(1, 1, 1, 1000000, 0, 1, 1);
        due("a little below", x.prove(0), 0);
        due("up", x.point(1, 0), -1);
        due("down", x.point(1, 1), 2000000);
    }

    private static void firstAbove() {
        sentence = "Else, if there are such with M k k above 0: the first is a PIVOT";
        SquareSums x = with(3, 2, 2, 5, 0, 0, 7, 3, 3, 6);
        due("prove", x.prove(0), 1);
        due("squares", x.told(1), 3);
        dueWeight(x, 0, 5, 1);
        dueWeight(x, 1, 6, 1);
        dueWeight(x, 2, 7, 1);
        // 1 + X1: X 0 is the pivot, then X 1 is below 0 by 1 / 4
        x = with(1, 0, 0, 1, 0, 1, 1);
        due("X 0 is the first above", x.prove(0), 0);
        duePoint(x, -2);
        x = with(1, 0, 0, 1);
        due("only X 0", x.prove(0), 1);
        due("squares", x.told(1), 1);
        dueLine(x, 0, 0, 1, 1);
        dueLine(x, 0, 1, 0, 1);
        sentence = "its LINE X k and, for all other LEFT j, (M k j / M k k) X j";
        x = with(2, 1, 1, 3, 2, 2, 1, 0, 2, 2, 0, 0, 1);
        due("prove", x.prove(0), 1);
        due("squares", x.told(1), 2);
        dueLine(x, 0, 1, 1, 1);
        dueLine(x, 0, 2, 0, 1);
        dueLine(x, 0, 0, 0, 1);
        dueLine(x, 1, 1, 0, 1);
        dueLine(x, 1, 2, 1, 1);
        dueLine(x, 1, 0, 1, 1);
    }

    private static void firstPair() {
        sentence = "if there are LEFT i, j (i ahead of j) with M i j not 0: NEGATIVE, by the first such pair";
        SquareSums x = with(3, 1, 3, 1, 2, 3, 1);
        due("by i", x.prove(0), 0);
        duePoint(x, 1, 0, -1);
        x = with(3, 1, 2, -1, 1, 3, 1);
        due("then by j", x.prove(0), 0);
        duePoint(x, 1, 1, 0);
        x = with(3, 0, 1, 1, 2, 3, 1);
        due("X 0 is the last j", x.prove(0), 0);
        duePoint(x, -1, 0, 0);
        x = with(3, 0, 3, -1);
        due("the last pair", x.prove(0), 0);
        duePoint(x, 0, 0, 1);
        x = with(3);
        due("no pair: DONE", x.prove(0), 1);
        due("without a square", x.told(1), 0);
        due("and it is expanded", x.check(), 1);
        sentence = "V i 1, V j 1 (-1, if M i j is above 0)";
        x = with(1, 0, 1, 1);
        due("above", x.prove(0), 0);
        duePoint(x, -1);
        x = with(1, 0, 1, -1);
        due("below", x.prove(0), 0);
        duePoint(x, 1);
        x = with(2, 1, 2, 1);
        due("above", x.prove(0), 0);
        duePoint(x, 1, -1);
        x = with(2, 1, 2, -1);
        due("below", x.prove(0), 0);
        duePoint(x, 1, 1);
        // X1^2 + 2 X1 X2 + X2^2 + X2: pair of X 2 and X 0 behind the pivot X 1
        x = with(2, 1, 1, 1, 1, 2, 2, 2, 2, 1, 0, 2, 1);
        due("behind a pivot", x.prove(0), 0);
        duePoint(x, 1, -1);
    }

    private static void firstPower() {
        sentence = "t V i, with the first t of 1, 2, 4, .. 2 to the power of 40 at which the FORM is below 0";
        int[][] all = {{0, 1}, {1, 2}, {3, 2}, {4, 4}, {15, 4}, {16, 8}, {1000000, 1024}};
        for (int[] one : all) {
            SquareSums x = with(1, 1, 1, -1, 0, 0, one[0]);
            due("-X1^2 + " + one[0], x.prove(0), 0);
            duePoint(x, one[1]);
        }
        // 2^19 X1^2 + X1 X2 + e X2 at -t / 2^20, t: e t - t^2 / 2^21
        SquareSums x = with(2, 1, 1, 1 << 19, 1, 2, 1, 0, 2, (1 << 18) - 1);
        due("2^39", x.prove(0), 0);
        duePoint(x, -(1L << 19), 1L << 39);
        x = with(2, 1, 1, 1 << 19, 1, 2, 1, 0, 2, (1 << 19) - 1);
        due("2^40, the last", x.prove(0), 0);
        duePoint(x, -(1L << 20), 1L << 40);
        x = with(2, 1, 1, 1 << 19, 1, 2, 1, 0, 2, 1 << 19);
        due("2^41 is not looked at: no t was found", x.prove(0), 2);
        due("told(0)", x.told(0), 2);
        due("told(1)", x.told(1), 0);
        dueNoPoint(x);
        dueNoSquares(x);
        // X1^2 + 512 X1 X2 + 65535 X2^2 - e X1 at -256 t, t: 256 e t - t^2
        x = with(2, 1, 1, 1, 1, 2, 512, 2, 2, 65535, 0, 1, -8193);
        due("2^22", x.prove(0), 0);
        duePoint(x, -(1L << 30), 1L << 22);
        x = with(2, 1, 1, 1, 1, 2, 512, 2, 2, 65535, 0, 1, -16385);
        due("at 2^23 an item is the least long", x.prove(0), 2);
        dueNoPoint(x);
    }

    private static void pointTooLong() {
        sentence = "2: something is TOO LONG";
        int[][] all = {
            // in the quotient V i / V 0: above, below
            {2, 0, 0, 984039, 0, 1, -91252, 0, 2, -665463, 1, 1, 9810},
            {2, 0, 0, 5277, 0, 1, 10336, 0, 2, 144134, 1, 1, 901203},
            // in the witness: product above, below, sum, its right product, its down
            {3, 0, 3, 12578, 1, 1, 3242, 1, 2, 4971, 2, 2, 29287, 2, 3, -6121, 3, 3, 361},
            {3, 0, 3, 838, 1, 1, 16581, 1, 2, 19589, 2, 2, 9951, 2, 3, -558, 3, 3, 12319},
            {3, 0, 0, 887, 0, 1, 552, 0, 2, 520, 2, 2, 123, 2, 3, 379, 3, 3, 902},
            {3, 0, 0, 53, 0, 1, 253, 0, 2, -416, 0, 3, 248, 2, 2, 981, 2, 3, -923, 3, 3, 698},
            {3, 0, 0, 719, 0, 1, -970, 0, 2, 8, 2, 2, 598, 2, 3, -17, 3, 3, 23},
            // in the form at t V: sum, its left product, its right product, its down
            {2, 0, 1, 760888, 1, 2, 8334, 2, 2, 193694},
            {2, 0, 2, 235923, 1, 1, 309766, 1, 2, 7376},
            {2, 0, 1, 970471, 1, 2, 49525, 2, 2, 929257},
            {3, 1, 3, -6, 2, 2, 230, 2, 3, 84, 3, 3, 856},
            // in the elimination: 2^63 is a right product, and one step less far is not
            {3, 1, 1, 524288, 1, 3, 1, 2, 2, 262144, 3, 3, 64, 0, 0, 131072, 0, 2, -128, 0, 3, -524288}};
        for (int at = 0; at < all.length; at++) {
            SquareSums x = with(all[at][0], java.util.Arrays.copyOfRange(all[at], 1, all[at].length));
            due("case " + at, x.prove(0), 2);
            due("told(0)", x.told(0), 2);
            due("told(1)", x.told(1), 0);
            due("check", x.check(), -2);
            due("equal", x.equal(), -2);
            due("count(2)", x.count(2), 1);
            dueNoSquares(x);
            dueNoPoint(x);
        }
        SquareSums x = with(3, 1, 1, 524288, 1, 3, 1, 2, 2, 262144, 3, 3, 64, 0, 0, 131072, 0, 2, -256, 0, 3, -524288);
        due("fits", x.prove(0), 0);
        due("point(3, 0)", x.point(3, 0), 1L << 39);
        due("point(3, 1)", x.point(3, 1), (1L << 27) - 1);
    }

    /** Every call in which something can be too long, ahead of every call that works in fractions. */
    private static void tooLongEnds() {
        sentence = "what was TOO LONG in one call is not so in the next";
        for (int before = 0; before <= 5; before++) {
            for (int call = 0; call <= 5; call++) {
                SquareSums x = with(4, 0, 0, 13185, 0, 1, 14034, 0, 2, 6126, 0, 3, -4904, 0, 4, -20446, 1, 1, 16362,
                    1, 2, -6186, 1, 3, -22998, 1, 4, -1104, 2, 2, 6305, 2, 3, 16384, 2, 4, -5610, 3, 3, 15085,
                    3, 4, -474, 4, 4, 10330);
                fillLong(x, 0);
                formOf(x, 1, 1, 1, 0, 1, 2, 0, 0, 1);
                formOf(x, 1, 1, 1, 0, 0, -1);
                dueTooLong(x, before);
                dueBehind(x, call, before);
            }
        }
    }

    private static void dueTooLong(SquareSums x, int which) {
        switch (which) {
            case 0 -> {
                due("prove", x.prove(2), 1);
                due("plain, too long", x.plain(1), -30);
            }
            case 1 -> {
                due("prove", x.prove(2), 1);
                due("plant, too long", x.plant(0, LEAST, 1), -30);
            }
            case 2 -> {
                due("prove", x.prove(0), 1);
                due("equal, too long", x.equal(), 2);
            }
            case 3 -> {
                due("prove", x.prove(0), 1);
                due("plant", x.plant(0, MOST, 1), 0);
                due("check, too long", x.check(), 2);
            }
            case 4 -> due("prove, too long", x.prove(1), 2);
            default -> due("under, too long", x.under(1, 0, 1), 2);
        }
    }

    private static void dueBehind(SquareSums x, int call, int before) {
        boolean proved = before < 4;
        switch (call) {
            case 0 -> due("plain", x.plain(2), -11);
            case 1 -> due("prove", x.prove(2), 1);
            case 2 -> due("prove", x.prove(3), 0);
            case 3 -> due("under", x.under(2, 3, 1), 1);
            case 4 -> {
                due("plant", x.plant(0, before < 2 ? 1 : 16362, 1), proved ? 0 : -1);
                due("check", x.check(), proved ? 1 : -2);
            }
            default -> due("equal", x.equal(), !proved ? -2 : before < 2 ? 1 : 2);
        }
    }

    private static void nothingOfEarlierOnes() {
        sentence = "what an earlier proof left is not in a later one";
        SquareSums x = with(3, 2, 2, 1, 1, 3, 4, 3, 3, 1);
        formOf(x, 1, 1, 1, 2, 2, 1);
        formOf(x, 2, 2, -1);
        formOf(x, 1, 1, 1, 2, 2, 1, 0, 0, 9, 1, 2, 2, 0, 1, 6, 0, 2, 6);
        due("the second line has X 1 and X 3", x.prove(0), 0);
        due("prove", x.prove(1), 1);
        dueLine(x, 1, 1, 0, 1);
        dueLine(x, 1, 2, 1, 1);
        dueLine(x, 1, 3, 0, 1);
        due("check", x.check(), 1);
        due("V 2 is 1", x.prove(2), 0);
        due("V 2 is 0", x.prove(3), 1);
        due("equal", x.equal(), 1);
        duePoint(x, -3, 0, 0);
    }

    private static void whatIsThere() {
        sentence = "By 0 there are no SQUARES, by 1 no POINT (but by equal()), by 2 neither.";
        SquareSums x = with(2, 1, 1, 1, 2, 2, 1);
        formOf(x, 1, 1, 1, 0, 0, -1);
        formOf(x, 1, 1, 1 << 19, 1, 2, 1, 0, 2, 1 << 19);
        for (int before = 0; before <= 2; before++) {
            x.prove(before);
            due("by 0", x.prove(1), 0);
            dueNoSquares(x);
            duePoint(x, 0, 0);
            x.prove(before);
            due("by 1", x.prove(0), 1);
            due("squares", x.told(1), 2);
            dueNoPoint(x);
            due("equal", x.equal(), 1);
            duePoint(x, 0, 0);
            due("by 2", x.prove(2), 2);
            dueNoSquares(x);
            dueNoPoint(x);
        }
    }

    // ---- 3 UNDER a CONDITION

    private static void multiplierEdges() {
        sentence = "FINER 1 .. 20: MULTIPLIERS p / q for s = 1, 2, .. FINER, for q = 1 .. s, p being s - q";
        SquareSums x = with(1, 0, 1, 1);
        formOf(x, 0, 1, 19);
        formOf(x, 0, 1, 20);
        formOf(x);
        formOf(x, 0, 0, 1);
        due("finer 0", x.under(0, 1, 0), -1);
        due("finer 21", x.under(0, 1, 21), -1);
        dueUnder(x, 4, 0, 1, 1, 0, 1, 1);
        dueUnder(x, 0, 3, 1, 2, 0, 1, 1);
        dueUnder(x, 0, 1, 19, 2, 0, 1, 120);
        dueUnder(x, 0, 1, 20, 1, 1, 19, 128);
        dueUnder(x, 1, 0, 19, 2, 0, 1, 120);
        dueUnder(x, 1, 0, 20, 1, 19, 1, 121);
        dueUnder(x, 0, 2, 20, 2, 0, 1, 128);
        dueUnder(x, 0, 0, 1, 2, 0, 1, 1);
        dueUnder(x, 0, 0, 2, 1, 1, 1, 2);
        sentence = "if p and q have 1 as greatest common divisor (0 and 1 have, 0 and others not)";
        int[] tried = {1, 2, 4, 6, 10, 12, 18, 22, 28, 32, 42, 46, 58, 64, 72, 80, 96, 102, 120, 128};
        for (int finer = 1; finer <= 20; finer++) {
            dueUnder(x, 0, 3, finer, 2, 0, 1, tried[finer - 1]);
        }
    }

    /** The condition is nowhere below 0 where the goal is, so that 2 is due if no multiplier does it. */
    private static void dueUnder(SquareSums x, int goal, int condition, int finer, int... told) {
        String call = "under(" + goal + ", " + condition + ", " + finer + ")";
        int answer = x.under(goal, condition, finer);
        // by the form that is 0 everywhere the goal X1 is below 0 at -3
        int want = condition == 3 && goal == 0 ? 0 : told[0];
        due(call, answer, want);
        due(call + " told(0)", x.told(0), want);
        due(call + " told(2)", x.told(2), goal);
        due(call + " told(3)", x.told(3), condition);
        due(call + " told(4)", x.told(4), told[1]);
        due(call + " told(5)", x.told(5), told[2]);
        due(call + " told(6)", x.told(6), told[3]);
        due(call + " check", x.check(), want == 1 ? 1 : -2);
    }

    /** Large numbers without common divisors, so that fractions soon do not fit. */
    private static int fillLong(SquareSums x, int less) {
        return formOf(x, 1, 1, 999983 - less, 1, 2, 314159, 1, 3, 271829, 1, 4, 141421, 2, 2, 999979, 2, 3, 173205,
            2, 4, 223607, 3, 3, 999961, 3, 4, 264575, 4, 4, 999959, 0, 1, 161803, 0, 2, 57721,
            0, 3, 69315, 0, 4, 11513, 0, 0, 999953);
    }

    private static void multiplierTooLong() {
        sentence = "(TOO LONG: passed over)";
        SquareSums x = of(4);
        fillLong(x, 0);
        fillLong(x, 5);
        formOf(x, 0, 0, -1);
        due("prove is too long", x.prove(0), 2);
        due("0 / 1 is passed over, 1 / 1 leaves 5 X1^2", x.under(0, 1, 2), 1);
        due("told(4)", x.told(4), 1);
        due("told(5)", x.told(5), 1);
        due("told(6)", x.told(6), 2);
        due("told(1)", x.told(1), 1);
        dueWeight(x, 0, 5, 1);
        due("check", x.check(), 1);
        due("all passed over, and nothing is below", x.under(0, 1, 1), 2);
        due("told(6)", x.told(6), 1);
        due("all passed over, finer", x.under(0, 2, 20), 2);
        due("told(6)", x.told(6), 128);
        due("told(1)", x.told(1), 0);
        dueNoSquares(x);
        dueNoPoint(x);
    }

    private static void wholePointEdges() {
        sentence = "the first point with whole X from -3 to 3 where the CONDITION is not below 0, and the GOAL is";
        int[][] all = {{2, 5, 0, -3}, {2, 7, 2, 0}, {-2, 5, 0, 3}, {-2, 7, 2, 0}, {1, 3, 2, 0}, {-1, 3, 2, 0},
            {1, 2, 0, -3}, {-1, 2, 0, 3}, {2, -1, 0, -3}};
        for (int[] one : all) {
            SquareSums x = with(1, 0, 1, one[0], 0, 0, one[1]);
            formOf(x);
            due("goal " + one[0] + " X1 + " + one[1], x.under(0, 1, 3), one[2]);
            if (one[2] == 0) {
                duePoint(x, one[3]);
            } else {
                dueNoPoint(x);
            }
            due("no multiplier", x.told(4), 0);
            due("no multiplier", x.told(5), 1);
            dueNoSquares(x);
        }
        SquareSums x = with(1, 0, 1, 2, 0, 0, 5);
        formOf(x, 0, 1, 1, 0, 0, 3);
        formOf(x, 0, 1, -1, 0, 0, -4);
        formOf(x, 0, 1, -1, 0, 0, -3);
        due("the condition is 0 at -3", x.under(0, 1, 20), 0);
        duePoint(x, -3);
        due("the condition is -1 at -3", x.under(0, 2, 20), 2);
        dueNoPoint(x);
        due("the condition falls, and is 0 at -3", x.under(0, 3, 20), 0);
        duePoint(x, -3);
        // where the condition is below 0 everywhere, nothing is told
        x = with(1, 0, 0, -1);
        formOf(x, 0, 0, -1);
        formOf(x);
        due("with itself: -1 less -1", x.under(0, 1, 2), 1);
        due("without", x.under(0, 1, 1), 2);
        due("0 is not below 0", x.under(0, 2, 1), 0);
        duePoint(x, -3);
    }

    private static void wholePointOrder() {
        sentence = "X 1 from -3 on, for each X 2 from -3 on, ..";
        for (int sign = 1; sign >= -1; sign -= 2) {
            for (int n = 1; n <= 4; n++) {
                SquareSums x = with(n);
                for (int k = 1; k <= n; k++) {
                    x.term(0, 0, k, sign);
                }
                formOf(x);
                x.term(0, 0, 0, 3 * n - 1);
                due("only one corner, " + n, x.under(0, 1, 1), 0);
                for (int k = 1; k <= n; k++) {
                    due("point", x.point(k, 0), -3 * sign);
                    due("point", x.point(k, 1), 1);
                }
                x.term(0, 0, 0, 3 * n);
                due("none, " + n, x.under(0, 1, 1), 2);
            }
        }
        dueFirst(with(2, 1, 2, 1, 0, 0, 8), -3, 3);
        dueFirst(with(3, 1, 2, 1, 1, 3, 1, 0, 0, 17), -3, 3, 3);
        dueFirst(with(3, 2, 3, 1, 0, 0, 8), -3, -3, 3);
        dueFirst(with(4, 3, 4, 1, 0, 0, 8), -3, -3, -3, 3);
        dueFirst(with(4, 1, 4, 1, 0, 0, 8), -3, -3, -3, 3);
        dueFirst(with(4, 1, 2, 1, 0, 0, 8), -3, 3, -3, -3);
        dueFirst(with(4, 0, 4, -1, 0, 0, 1), -3, -3, -3, 2);
        dueFirst(with(4, 0, 1, -1, 0, 0, 1), 2, -3, -3, -3);
    }

    private static void dueFirst(SquareSums x, long... point) {
        formOf(x);
        due("under", x.under(0, 1, 2), 0);
        duePoint(x, point);
    }

    // ---- promises 9 to 13

    private static void toldEdges() {
        sentence = "0 what it answered .. 6 MULTIPLIERS tried by it. STATE: there was none since variables(). BAD.";
        SquareSums x = with(2, 1, 1, 1);
        formOf(x, 1, 1, -1);
        for (int what = 0; what <= 6; what++) {
            due("told(" + what + ")", x.told(what), -2);
        }
        x.prove(5);
        x.under(0, 1, 0);
        x.plain(0);
        x.value(0, 1, 1, 1, 1);
        due("refused and other calls are none", x.told(0), -2);
        due("BAD ahead of STATE", x.told(7), -1);
        due("BAD ahead of STATE", x.told(-1), -1);
        dueTold(x, x.prove(0), 1, 1, 0, -1, 0, 1, 0);
        dueTold(x, x.prove(1), 0, 0, 1, -1, 0, 1, 0);
        dueTold(x, x.under(0, 1, 1), 1, 1, 0, 1, 0, 1, 1);
        dueTold(x, x.under(1, 0, 1), 0, 0, 1, 0, 0, 1, 1);
        dueTold(x, x.under(1, 1, 2), 1, 0, 1, 1, 1, 1, 2);
        dueTold(x, x.prove(1), 0, 0, 1, -1, 0, 1, 0);
        due("told(7)", x.told(7), -1);
        due("told(-1)", x.told(-1), -1);
        x.variables(2);
        due("variables", x.told(0), -2);
    }

    private static void dueTold(SquareSums x, int answer, int... want) {
        due("answer", answer, want[0]);
        for (int what = 0; what <= 6; what++) {
            due("told(" + what + ")", x.told(what), want[what]);
        }
    }

    private static void squareEdges() {
        sentence = "of SQUARE i. BAD: 0.";
        for (int squares = 0; squares <= 5; squares++) {
            SquareSums x = with(4);
            for (int k = 0; k < squares; k++) {
                x.term(0, k, k, 2 + k);
            }
            due("prove", x.prove(0), 1);
            due("told(1)", x.told(1), squares);
            for (int i = -1; i <= 5; i++) {
                boolean there = i >= 0 && i < squares;
                int k = i == squares - 1 ? 0 : i + 1;
                dueWeight(x, i, there ? 2 + k : 0, there ? 1 : 0);
                due("near(" + i + ")", x.near(i), there ? Double.doubleToLongBits(2 + k) : 0);
                for (int at = -1; at <= 5; at++) {
                    boolean is = there && at >= 0 && at <= 4;
                    dueLine(x, i, at, is && at == k ? 1 : 0, is ? 1 : 0);
                }
                due("part -1", x.weight(i, -1), 0);
                due("part 2", x.weight(i, 2), 0);
                due("part -1", x.line(i, 0, -1), 0);
                due("part 2", x.line(i, 0, 2), 0);
            }
            for (int i = -1; i <= 5; i++) {
                due("plant(" + i + ")", x.plant(i, 9, 7), i >= 0 && i < squares ? 0 : -1);
            }
        }
    }

    private static void pointEdges() {
        sentence = "Up, down of X k (1 .. n) of THE POINT. BAD, no POINT: 0.";
        for (int n = 1; n <= 4; n++) {
            SquareSums x = with(n, 0, n, 2, n, n, 1);
            due("prove", x.prove(0), 0);
            for (int k = -1; k <= 5; k++) {
                due("point(" + k + ", 0)", x.point(k, 0), k == n ? -1 : 0);
                due("point(" + k + ", 1)", x.point(k, 1), k >= 1 && k <= n ? 1 : 0);
                due("point(" + k + ", -1)", x.point(k, -1), 0);
                due("point(" + k + ", 2)", x.point(k, 2), 0);
            }
        }
    }

    private static void nearEdges() {
        sentence = "BITS (Double.doubleToLongBits) of a WEIGHT's up by its down, as doubles.";
        long[][] all = {{0, 1, 0}, {1, 1, 0x3FF0000000000000L}, {-1, 1, 0xBFF0000000000000L},
            {1, 2, 0x3FE0000000000000L}, {3, 4, 0x3FE8000000000000L}, {1, 3, 0x3FD5555555555555L},
            {-2, 3, 0xBFE5555555555555L}, {1, 10, 0x3FB999999999999AL}, {MOST, 1, 0x43E0000000000000L},
            {-MOST, 1, 0xC3E0000000000000L}, {1, MOST, 0x3C00000000000000L}, {-1, MOST, 0xBC00000000000000L},
            {MOST, MOST - 1, 0x3FF0000000000000L}, {(1L << 53) - 1, 1, 0x433FFFFFFFFFFFFFL},
            {1L << 53, 1, 0x4340000000000000L}, {(1L << 53) + 1, 1, 0x4340000000000000L},
            {(1L << 53) + 2, 1, 0x4340000000000001L}, {(1L << 53) + 3, 1, 0x4340000000000002L},
            {(1L << 53) + 1, (1L << 53) - 1, 0x3FF0000000000001L}, {(1L << 53) - 1, 1L << 53, 0x3FEFFFFFFFFFFFFFL},
            {1L << 62, 1, 0x43D0000000000000L}, {1, 1L << 62, 0x3C10000000000000L}};
        SquareSums x = line(1, true);
        for (long[] one : all) {
            due("plant", x.plant(1, one[0], one[1]), 0);
            due("near of " + one[0] + " / " + one[1], x.near(1), one[2]);
        }
        due("near(0) is as it was", x.near(0), 0x3FF0000000000000L);
    }

    // ---- promises 14 to 18

    private static void plantEdges() {
        sentence = "The WEIGHT of SQUARE i becomes up / down: 0. BAD: also down is 0. LONG.";
        SquareSums x = line(1, true);
        due("down 0", x.plant(0, 1, 0), -1);
        due("0 by 0", x.plant(0, 0, 0), -1);
        due("BAD ahead of LONG", x.plant(0, LEAST, 0), -1);
        due("BAD ahead of LONG", x.plant(2, LEAST, 1), -1);
        due("up is the least", x.plant(0, LEAST, 1), -30);
        due("down is the least", x.plant(0, 1, LEAST), -30);
        due("both are", x.plant(0, LEAST, LEAST), -30);
        due("0 by the least", x.plant(0, 0, LEAST), -30);
        dueWeight(x, 0, 1, 1);
        dueWeight(x, 1, 1, 1);
        due("check", x.check(), 1);
        due("up is next to the least", x.plant(0, LEAST + 1, 1), 0);
        dueWeight(x, 0, -MOST, 1);
        due("down is next to the least", x.plant(0, 1, LEAST + 1), 0);
        dueWeight(x, 0, -1, MOST);
        due("the last square", x.plant(1, 2, 6), 0);
        dueWeight(x, 1, 1, 3);
        due("the line stays", x.line(0, 0, 0), 1);
        due("nothing told changes", x.told(1), 2);
        due("count(2)", x.count(2), 1);
        due("prove anew", x.prove(0), 1);
        dueWeight(x, 0, 1, 1);
        dueWeight(x, 1, 1, 1);
    }

    private static void checkEdges() {
        sentence = "1: it is the MATRIX that was proved (as it was then), 0: it is not; 2: something is TOO LONG";
        SquareSums x = line(3, true);
        x.term(0, 1, 1, 900);
        due("the form changed since", x.check(), 1);
        due("only the first item differs", checkWith(x, 1000001, 1000000), 0);
        due("as before", checkWith(x, 7, 7), 1);
        due("the last square alone differs", x.plant(1, 2, 1) == 0 ? x.check() : -99, 0);
        due("as before", x.plant(1, 1, 1) == 0 ? x.check() : -99, 1);
        due("a square of weight 0", checkWith(x, 0, 1), 0);
        due("contrary", checkWith(x, -1, 1), 0);
        for (int n = 1; n <= 4; n++) {
            for (int square = 0; square <= n; square++) {
                x = with(n, 0, 0, 3);
                for (int k = 1; k <= n; k++) {
                    x.term(0, k, k, 3);
                }
                due("prove", x.prove(0), 1);
                due("plant", x.plant(square, 4, 1), 0);
                due("one item alone differs", x.check(), 0);
            }
        }
        sentence = "for all i, j (also j below i): (WEIGHT * LINE at i) * LINE at j";
        x = with(2, 1, 1, 1, 2, 2, 4, 0, 0, 9, 1, 2, 4, 0, 1, 6, 0, 2, 12);
        x.prove(0);
        due("only (W * 2) * 3 is too long", checkWith(x, 2000000000000000000L, 3), 2);
        x = with(2, 1, 1, 1, 2, 2, 9, 0, 0, 4, 1, 2, 6, 0, 1, 4, 0, 2, 12);
        x.prove(0);
        due("now above the diagonal", checkWith(x, 2000000000000000000L, 3), 2);
        sentence = "STATE: the latest prove(), under() did not answer 1.";
        x = with(1, 1, 1, 1);
        formOf(x, 1, 1, -1);
        formOf(x, 0, 1, 1);
        formOf(x, 0, 0, -1);
        due("none", x.check(), -2);
        due("none", x.equal(), -2);
        int[][] calls = {{0, -1, 1}, {1, -1, 0}, {0, 1, 1}, {1, 0, 0}, {2, 3, 2}, {0, -1, 1}, {2, -1, 0}, {0, 0, 1}};
        for (int[] call : calls) {
            int answer = call[1] < 0 ? x.prove(call[0]) : x.under(call[0], call[1], 1);
            due("answer", answer, call[2]);
            due("check after " + answer, x.check(), answer == 1 ? 1 : -2);
            due("equal after " + answer, x.equal(), answer == 1 ? 1 : -2);
        }
        x.prove(9);
        due("a refused one is not the latest", x.check(), 1);
        x.under(1, 0, 21);
        due("a refused one is not the latest", x.equal(), 1);
        x.variables(1);
        due("none any more", x.check(), -2);
        due("none any more", x.equal(), -2);
    }

    private static void equalEdges() {
        sentence = "X 0 is LEFT at the end: 1, and THE POINT is there then; else 0. 2: something is TOO LONG";
        for (int n = 1; n <= 4; n++) {
            SquareSums x = with(n);
            due("nothing", x.prove(0), 1);
            due("all are left", x.equal(), 1);
            duePoint(x, new long[n]);
            x.term(0, 0, 0, 1);
            x.prove(0);
            dueNoPoint(x);
            due("X 0 is a pivot", x.equal(), 0);
            dueNoPoint(x);
        }
        // (X1 + 2 X2 - 3)^2 + (X2 + 4)^2: 11, -4; one more than that is nowhere 0
        SquareSums x = with(2, 1, 1, 1, 1, 2, 4, 0, 1, -6, 2, 2, 5, 0, 2, -4, 0, 0, 25);
        due("prove", x.prove(0), 1);
        due("equal", x.equal(), 1);
        duePoint(x, 11, -4);
        due("equal again", x.equal(), 1);
        duePoint(x, 11, -4);
        due("planted weights do not matter", x.plant(0, -5, 3), 0);
        due("equal", x.equal(), 1);
        duePoint(x, 11, -4);
        due("what was proved, as it was then", x.term(0, 0, 0, 26), 25);
        due("equal", x.equal(), 1);
        due("prove", x.prove(0), 1);
        dueNoPoint(x);
        due("nowhere", x.equal(), 0);
        dueNoPoint(x);
        // 2 X1^2 + 2 X1 + 1/2 would be 0 at -1/2: 4 X1^2 + 4 X1 + 1
        x = with(1, 1, 1, 4, 0, 1, 4, 0, 0, 1);
        x.prove(0);
        due("a fraction", x.equal(), 1);
        due("point(1, 0)", x.point(1, 0), -1);
        due("point(1, 1)", x.point(1, 1), 2);
        // with the multiplier 1 / 1 what was proved is X1^2
        x = with(1, 1, 1, 1, 0, 1, 3);
        formOf(x, 0, 1, 3);
        due("under", x.under(0, 1, 2), 1);
        due("of what was proved", x.equal(), 1);
        duePoint(x, 0);
        x = with(4, 0, 0, 13185, 0, 1, 14034, 0, 2, 6126, 0, 3, -4904, 0, 4, -20446, 1, 1, 16362, 1, 2, -6186,
            1, 3, -22998, 1, 4, -1104, 2, 2, 6305, 2, 3, 16384, 2, 4, -5610, 3, 3, 15085, 3, 4, -474, 4, 4, 10330);
        due("prove", x.prove(0), 1);
        due("too long", x.equal(), 2);
        dueNoPoint(x);
        due("told(0)", x.told(0), 1);
        due("check", x.check(), 1);
        due("too long again", x.equal(), 2);
    }

    private static void pivotEdges() {
        sentence = "v / d, as the machine's longs have it; LONG by 0 (it may be the quotient, too)";
        SquareSums x = new SquareSums();
        long[][] all = {{7, 2, 3}, {-7, 2, -3}, {7, -2, -3}, {-7, -2, 3}, {0, 5, 0}, {1, MOST, 0}, {MOST, 1, MOST},
            {MOST, -1, -MOST}, {MOST, MOST, 1}, {MOST, LEAST, 0}, {LEAST, 1, LEAST}, {LEAST, -1, LEAST},
            {LEAST, LEAST, 1}, {LEAST, MOST, -1}, {LEAST, 2, -(1L << 62)}, {-30, 1, -30}, {61, -2, -30}, {1, 0, -30},
            {0, 0, -30}, {-1, 0, -30}, {MOST, 0, -30}, {LEAST, 0, -30}, {5, 1, 5}};
        for (long[] one : all) {
            due(one[0] + " / " + one[1], x.pivot(one[0], one[1]), one[2]);
        }
    }

    private static void countEdges() {
        sentence = "0 VARIABLES, 1 FORMS, 2 proofs since variables(). BAD.";
        SquareSums x = with(3, 1, 1, 1);
        formOf(x, 1, 1, -1);
        formOf(x, 1, 1, 1 << 19, 1, 2, 1, 0, 2, 1 << 19);
        due("none", x.count(2), 0);
        int proofs = 0;
        for (int form = -1; form <= 3; form++) {
            x.prove(form);
            proofs += form >= 0 && form <= 2 ? 1 : 0;
            due("prove(" + form + ")", x.count(2), proofs);
            x.under(form, 0, 1);
            proofs += form >= 0 && form <= 2 ? 1 : 0;
            due("under(" + form + ")", x.count(2), proofs);
        }
        x.plain(0);
        x.check();
        x.equal();
        due("others are none", x.count(2), proofs);
        due("count(0)", x.count(0), 3);
        due("count(1)", x.count(1), 3);
        due("count(-1)", x.count(-1), -1);
        due("count(3)", x.count(3), -1);
        x.variables(3);
        due("count(1)", x.count(1), 0);
        due("count(2)", x.count(2), 0);
    }

    private static void manyCalls() {
        sentence = "An object is used for at most 512 calls after it has been made";
        SquareSums x = new SquareSums();
        x.variables(4);
        fillLong(x, 0);
        fillLong(x, 5);
        int calls = 1 + 2 * 16;
        int proofs = 0;
        for (; calls + 4 <= 509; calls += 4) {
            due("under", x.under(1, 0, 20), 2);
            due("under", x.under(0, 1, 20), 1);
            due("check", x.check(), 1);
            due("equal", x.equal(), 1);
            proofs += 2;
        }
        due("count(2), the 510th", x.count(2), proofs);
        due("told(6), the 511th", x.told(6), 2);
        due("prove, the 512th", x.prove(0), 2);
        due("calls before the last three", calls, 509);
    }

    public static void main(String[] args) {
        constants();
        newObject();
        numberOfVariables();
        variablesAnew();
        twelveForms();
        numbersAtFirst();
        termEdges();
        halves();
        valueEdges();
        plainTurns();
        plainTooLong();
        productEdges();
        sumEdges();
        lowestTerms();
        firstBelow();
        firstAbove();
        firstPair();
        firstPower();
        pointTooLong();
        tooLongEnds();
        nothingOfEarlierOnes();
        whatIsThere();
        multiplierEdges();
        multiplierTooLong();
        wholePointEdges();
        wholePointOrder();
        toldEdges();
        squareEdges();
        pointEdges();
        nearEdges();
        plantEdges();
        checkEdges();
        equalEdges();
        pivotEdges();
        countEdges();
        manyCalls();
        System.out.println(wrong == 0 ? "all answers are as due" : wrong + " answers are not as due");
        if (wrong != 0) {
            System.exit(1);
        }
    }
}
