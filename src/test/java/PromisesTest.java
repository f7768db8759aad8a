/** Every promise of the document by hand-worked cases: ordinary ones, edges and refusals. */
public final class PromisesTest {
    private static int wrong = 0;
    private static String promise = "";

    private static void due(String call, long got, long want) {
        if (got != want) {
            wrong++;
            System.out.println("promise " + promise + ": " + call + " answered " + got + ", due is " + want);
        }
    }

    /** A new form with numbers told as i, j, v, i, j, v, .. */
    private static int formOf(SquareSums x, int... terms) {
        int form = x.form();
        for (int at = 0; at < terms.length; at += 3) {
            x.term(form, terms[at], terms[at + 1], terms[at + 2]);
        }
        return form;
    }

    private static SquareSums of(int n) {
        SquareSums x = new SquareSums();
        x.variables(n);
        return x;
    }

    private static void dueWeight(SquareSums x, int i, long up, long down) {
        due("weight(" + i + ", 0)", x.weight(i, 0), up);
        due("weight(" + i + ", 1)", x.weight(i, 1), down);
    }

    private static void dueLine(SquareSums x, int i, int k, long up, long down) {
        due("line(" + i + ", " + k + ", 0)", x.line(i, k, 0), up);
        due("line(" + i + ", " + k + ", 1)", x.line(i, k, 1), down);
    }

    private static void duePoint(SquareSums x, int k, long up, long down) {
        due("point(" + k + ", 0)", x.point(k, 0), up);
        due("point(" + k + ", 1)", x.point(k, 1), down);
    }

    private static void newObject() {
        promise = "1";
        SquareSums x = new SquareSums();
        due("count(0)", x.count(0), 2);
        due("count(1)", x.count(1), 0);
        due("count(2)", x.count(2), 0);
        due("told(0)", x.told(0), SquareSums.STATE);
        due("check()", x.check(), SquareSums.STATE);
        due("equal()", x.equal(), SquareSums.STATE);
        due("weight(0, 1)", x.weight(0, 1), 0);
        due("point(1, 1)", x.point(1, 1), 0);
    }

    private static void variables() {
        promise = "2";
        SquareSums x = new SquareSums();
        due("variables(0)", x.variables(0), SquareSums.BAD);
        due("variables(5)", x.variables(5), SquareSums.BAD);
        due("variables(least)", x.variables(Integer.MIN_VALUE), SquareSums.BAD);
        formOf(x, 1, 1, 7);
        x.form();
        x.prove(0);
        due("variables(9)", x.variables(9), SquareSums.BAD);
        due("count(1) unchanged", x.count(1), 2);
        due("told(0) unchanged", x.told(0), 1);
        due("variables(4)", x.variables(4), 2);
        due("count(0)", x.count(0), 4);
        due("count(1)", x.count(1), 0);
        due("count(2)", x.count(2), 0);
        due("told(1)", x.told(1), SquareSums.STATE);
        due("weight(0, 0)", x.weight(0, 0), 0);
        due("check()", x.check(), SquareSums.STATE);
        due("variables(1)", x.variables(1), 0);
        x.form();
        due("term is 0 again", x.term(0, 1, 1, 3), 0);
        due("variables(1) again", x.variables(1), 1);
        x.form();
        x.term(0, 1, 1, -1);
        x.prove(0);
        due("point(1, 1)", x.point(1, 1), 1);
        x.variables(1);
        due("point gone", x.point(1, 1), 0);
    }

    private static void form() {
        promise = "3";
        SquareSums x = new SquareSums();
        for (int number = 0; number < 12; number++) {
            due("form()", x.form(), number);
        }
        due("form()", x.form(), SquareSums.FULL);
        due("count(1)", x.count(1), 12);
        x.variables(2);
        due("form() anew", x.form(), 0);
    }

    private static void term() {
        promise = "4";
        SquareSums x = new SquareSums();
        due("no form", x.term(0, 0, 0, 1), -2000000);
        x.form();
        due("ordinary", x.term(0, 1, 2, 5), 0);
        due("other way about", x.term(0, 2, 1, -6), 5);
        due("back", x.term(0, 1, 2, -1), -6);
        due("same number", x.term(0, 1, 2, -1), -1);
        due("most", x.term(0, 0, 0, 1000000), 0);
        due("least", x.term(0, 0, 0, -1000000), 1000000);
        due("too much", x.term(0, 0, 0, 1000001), -2000000);
        due("too little", x.term(0, 0, 0, -1000001), -2000000);
        due("unchanged", x.term(0, 0, 0, 0), -1000000);
        due("i below", x.term(0, -1, 0, 1), -2000000);
        due("i above", x.term(0, 3, 0, 1), -2000000);
        due("j below", x.term(0, 0, -1, 1), -2000000);
        due("j above", x.term(0, 0, 3, 1), -2000000);
        due("form below", x.term(-1, 0, 0, 1), -2000000);
        due("form above", x.term(1, 0, 0, 1), -2000000);
    }

    private static void value() {
        promise = "5";
        SquareSums x = of(3);
        formOf(x, 0, 0, 5, 0, 1, 2, 1, 1, 3, 1, 2, -4, 3, 3, 7);
        due("at 1 2 3", x.value(0, 1, 2, 3, 99999), 5 + 2 + 3 - 8 + 63);
        due("at -1000s", x.value(0, -1000, -1000, 1000, 0), 5 - 2000 + 3000000 - 4000000 + 7000000);
        due("a too much", x.value(0, 1001, 0, 0, 0), -1);
        due("c too little", x.value(0, 0, 0, -1001, 0), -1);
        due("no form", x.value(1, 0, 0, 0, 0), -1);
        due("form below", x.value(-1, 0, 0, 0, 0), -1);
        SquareSums y = of(4);
        formOf(y, 4, 4, 1000000, 1, 1, 1000000, 1, 4, 1000000);
        due("large", y.value(0, 1000, 0, 0, 1000), 3000000000000L);
        due("d too much", y.value(0, 0, 0, 0, 1001), -1);
    }

    private static void plain() {
        promise = "6";
        SquareSums x = new SquareSums();
        due("no form", x.plain(0), SquareSums.BAD);
        formOf(x, 1, 1, 1, 2, 2, -1, 0, 0, 4);
        due("two above", x.plain(0), 2);
        formOf(x);
        due("turn 0", x.plain(1), -10);
        formOf(x, 1, 1, 1, 1, 2, 2, 2, 2, 1);
        due("turn 1", x.plain(2), -11);
        formOf(x, 1, 1, 1, 2, 2, 1);
        due("last turn", x.plain(3), -12);
        formOf(x, 1, 1, -1, 2, 2, -1, 0, 0, -1);
        due("none above", x.plain(4), 0);
        due("form below", x.plain(-1), SquareSums.BAD);
        SquareSums y = of(4);
        fillLong(y);
        due("too long", y.plain(0), SquareSums.LONG);
        y.variables(2);
        formOf(y, 1, 1, 4, 2, 2, 1);
        y.prove(0);
        formOf(y, 1, 1, 9, 2, 2, 9, 0, 0, 9);
        due("all above", y.plain(1), 3);
        due("squares stay", y.told(1), 2);
        dueWeight(y, 0, 4, 1);
        due("count(2)", y.count(2), 1);
    }

    /** Large numbers without common divisors, so that fractions soon do not fit. */
    private static int fillLong(SquareSums x) {
        return formOf(x, 1, 1, 999983, 1, 2, 314159, 1, 3, 271829, 1, 4, 141421, 2, 2, 999979, 2, 3, 173205,
            2, 4, 223607, 3, 3, 999961, 3, 4, 264575, 4, 4, 999959, 0, 1, 161803, 0, 2, 57721,
            0, 3, 69315, 0, 4, 11513, 0, 0, 999953);
    }

    private static void prove() {
        promise = "7";
        SquareSums x = new SquareSums();
        due("no form", x.prove(0), SquareSums.BAD);
        due("refused is none", x.told(0), SquareSums.STATE);
        // (X1 + X2 / 2)^2 + 3 / 4 X2^2
        formOf(x, 1, 1, 1, 1, 2, 1, 2, 2, 1);
        due("prove", x.prove(0), 1);
        due("squares", x.told(1), 2);
        dueWeight(x, 1, 3, 4);
        dueLine(x, 0, 2, 1, 2);
        due("no point", x.point(1, 1), 0);
        // (X1 + 1)^2 - 1
        formOf(x, 1, 1, 1, 0, 1, 2);
        due("negative by X 0", x.prove(1), 0);
        duePoint(x, 1, -1, 1);
        duePoint(x, 2, 0, 1);
        due("no squares", x.told(1), 0);
        due("no weight", x.weight(0, 1), 0);
        // X1 comes ahead of X0, though both are below
        formOf(x, 0, 0, -1, 1, 1, -1);
        due("negative by X 1", x.prove(2), 0);
        duePoint(x, 1, 1, 1);
        // t has to be 8: 16 - t^2 is not below 0 at 4
        formOf(x, 0, 0, 16, 2, 2, -1);
        due("doubled", x.prove(3), 0);
        duePoint(x, 1, 0, 1);
        duePoint(x, 2, 8, 1);
        // a pair, above 0: V 2 is -1
        formOf(x, 1, 2, 5);
        due("pair", x.prove(4), 0);
        duePoint(x, 1, 1, 1);
        duePoint(x, 2, -1, 1);
        formOf(x, 1, 2, -5);
        due("pair below", x.prove(5), 0);
        duePoint(x, 2, 1, 1);
        // a pair with X 0: V 0 is -1, so X 1 is 1 / -1
        formOf(x, 0, 1, 1);
        due("pair with X 0", x.prove(6), 0);
        duePoint(x, 1, -1, 1);
        formOf(x);
        due("nothing", x.prove(7), 1);
        due("no squares needed", x.told(1), 0);
        formOf(x, 0, 0, -1);
        due("below everywhere", x.prove(8), 0);
        duePoint(x, 1, 0, 1);
        // X 2 is below 0 ahead of X 1 being a pivot
        formOf(x, 1, 1, 1, 1, 2, 2, 2, 2, -1);
        due("below comes ahead of above", x.prove(9), 0);
        duePoint(x, 1, 0, 1);
        duePoint(x, 2, 1, 1);
        // M i j less M j k * (M k i / M k k) would be too long
        SquareSums z = of(3);
        formOf(z, 0, 0, 437501, 0, 1, -2400, 0, 2, -403368, 0, 3, 4860, 1, 1, 209999, 1, 2, 5600, 2, 2, 470596,
            2, 3, 280000, 3, 3, 716800);
        due("i up to j", z.prove(0), 1);
        due("i up to j", z.plain(0), 4);
        SquareSums y = of(4);
        fillLong(y);
        due("too long", y.prove(0), 2);
        due("neither squares", y.told(1), 0);
        due("nor point", y.point(1, 1), 0);
        due("form above", y.prove(1), SquareSums.BAD);
        due("form below", y.prove(-1), SquareSums.BAD);
        due("told is of the latest one not refused", y.told(0), 2);
    }

    private static void under() {
        promise = "8";
        SquareSums x = of(1);
        // X1 >= 0 where X1 - 1 >= 0: X1 - (X1 - 1) is 1
        int goal = formOf(x, 0, 1, 1);
        int condition = formOf(x, 0, 1, 1, 0, 0, -1);
        due("finer 1", x.under(goal, condition, 1), 2);
        due("tried", x.told(6), 1);
        due("no multiplier", x.told(4), 0);
        due("finer 2", x.under(goal, condition, 2), 1);
        due("up", x.told(4), 1);
        due("down", x.told(5), 1);
        due("tried 2", x.told(6), 2);
        due("squares", x.told(1), 1);
        due("check", x.check(), 1);
        // the multiplier has to be 2 / 3: 3 * goal = 2 * condition
        int two = formOf(x, 0, 1, 2);
        int three = formOf(x, 0, 1, 3);
        due("finer 4", x.under(two, three, 4), 2);
        due("tried 0/1 1/1 2/1 1/2 3/1 1/3", x.told(6), 6);
        due("finer 5", x.under(two, three, 5), 1);
        due("up", x.told(4), 2);
        due("down", x.told(5), 3);
        due("tried 4/1 3/2 2/3", x.told(6), 9);
        due("no point", x.point(1, 1), 0);
        // a point: X1 >= -2 does not give X1 >= 0; the first is -2
        int least = formOf(x, 0, 1, 1, 0, 0, 2);
        due("point", x.under(goal, least, 3), 0);
        duePoint(x, 1, -2, 1);
        due("no squares", x.told(1), 0);
        due("multiplier up", x.told(4), 0);
        due("multiplier down", x.told(5), 1);
        due("itself", x.under(goal, goal, 2), 1);
        due("finer 0", x.under(goal, condition, 0), SquareSums.BAD);
        due("finer 21", x.under(goal, condition, 21), SquareSums.BAD);
        due("no goal", x.under(9, condition, 2), SquareSums.BAD);
        due("no condition", x.under(goal, -1, 2), SquareSums.BAD);
        due("finer 20", x.under(goal, least, 20), 0);
        SquareSums y = of(2);
        // X 1 from -3 on is the outer one
        formOf(y, 0, 1, 1, 0, 2, 1, 0, 0, 2);
        formOf(y, 0, 2, 1, 0, 1, -1);
        due("points in order", y.under(0, 1, 1), 0);
        duePoint(y, 1, -3, 1);
        duePoint(y, 2, -3, 1);
        formOf(y, 0, 2, 1);
        due("points in order", y.under(0, 2, 1), 0);
        duePoint(y, 1, -3, 1);
        duePoint(y, 2, 0, 1);
        // below 0 at -3, 3 and at 3, -3 alone; the condition is 0 everywhere
        formOf(y, 1, 2, 1, 0, 0, 8);
        formOf(y);
        due("X 1 is the outer one", y.under(3, 4, 2), 0);
        duePoint(y, 1, -3, 1);
        duePoint(y, 2, 3, 1);
        // X1^2 + 4 X1: one square is found ahead of being negative
        formOf(y, 1, 1, 1, 0, 1, 4);
        due("no square stays", y.under(5, 4, 2), 0);
        due("told(1)", y.told(1), 0);
        due("weight(0, 1)", y.weight(0, 1), 0);
    }

    private static void told() {
        promise = "9";
        SquareSums x = new SquareSums();
        due("told(0)", x.told(0), SquareSums.STATE);
        due("told(6)", x.told(6), SquareSums.STATE);
        due("told(7)", x.told(7), SquareSums.BAD);
        due("told(-1)", x.told(-1), SquareSums.BAD);
        x.form();
        formOf(x, 1, 1, 3);
        x.prove(1);
        long[] proved = {1, 1, 1, -1, 0, 1, 0};
        for (int what = 0; what < 7; what++) {
            due("told(" + what + ")", x.told(what), proved[what]);
        }
        formOf(x, 1, 1, 3, 2, 2, 2, 0, 0, -1);
        formOf(x, 2, 2, 1, 0, 0, -1);
        x.under(2, 3, 3);
        long[] under = {1, 2, 2, 3, 1, 1, 2};
        for (int what = 0; what < 7; what++) {
            due("told(" + what + ") of under", x.told(what), under[what]);
        }
        due("told(7)", x.told(7), SquareSums.BAD);
    }

    private static SquareSums threeSquares() {
        SquareSums x = new SquareSums();
        // 2 (X1 - 3/4 X2 + 1/2)^2 + ..
        formOf(x, 1, 1, 2, 1, 2, -3, 0, 1, 2, 2, 2, 4, 0, 2, 1, 0, 0, 9);
        due("prove", x.prove(0), 1);
        return x;
    }

    private static void weightAndLine() {
        promise = "10";
        SquareSums x = threeSquares();
        dueWeight(x, 0, 2, 1);
        dueWeight(x, 1, 23, 8);
        dueWeight(x, 2, 183, 23);
        due("weight(3, 0)", x.weight(3, 0), 0);
        due("weight(3, 1)", x.weight(3, 1), 0);
        due("weight(-1, 1)", x.weight(-1, 1), 0);
        due("weight(0, 2)", x.weight(0, 2), 0);
        due("weight(0, -1)", x.weight(0, -1), 0);
        promise = "11";
        dueLine(x, 0, 1, 1, 1);
        dueLine(x, 0, 2, -3, 4);
        dueLine(x, 0, 0, 1, 2);
        dueLine(x, 1, 1, 0, 1);
        dueLine(x, 1, 2, 1, 1);
        dueLine(x, 1, 0, 10, 23);
        dueLine(x, 2, 2, 0, 1);
        dueLine(x, 2, 0, 1, 1);
        due("line(3, 0, 1)", x.line(3, 0, 1), 0);
        due("line(-1, 0, 1)", x.line(-1, 0, 1), 0);
        due("line(0, 3, 1)", x.line(0, 3, 1), 0);
        due("line(0, -1, 1)", x.line(0, -1, 1), 0);
        due("line(0, 0, 2)", x.line(0, 0, 2), 0);
    }

    private static void point() {
        promise = "12";
        SquareSums x = new SquareSums();
        // (X1 + 3/2)^2 - 5/4
        formOf(x, 1, 1, 1, 0, 1, 3, 0, 0, 1);
        due("prove", x.prove(0), 0);
        duePoint(x, 1, -3, 2);
        duePoint(x, 2, 0, 1);
        due("point(0, 1)", x.point(0, 1), 0);
        due("point(3, 1)", x.point(3, 1), 0);
        due("point(-1, 1)", x.point(-1, 1), 0);
        due("point(1, 2)", x.point(1, 2), 0);
        due("point(1, -1)", x.point(1, -1), 0);
        x.term(0, 0, 0, 1000);
        duePoint(x, 1, -3, 2);
        due("prove again", x.prove(0), 1);
        due("no point", x.point(1, 1), 0);
    }

    private static void near() {
        promise = "13";
        SquareSums x = threeSquares();
        due("near(1)", x.near(1), Double.doubleToLongBits(23.0 / 8.0));
        due("near(3)", x.near(3), 0);
        due("near(-1)", x.near(-1), 0);
        long most = Long.MAX_VALUE;
        long[] numbers = {1, 2, 3, 7, 10, 1023, 4097, 1L << 40, (1L << 53) + 1, (1L << 62) + 1, most - 1, most};
        for (long up : numbers) {
            for (long down : numbers) {
                nearOf(x, up, down);
                nearOf(x, -up, down);
                nearOf(x, up, -down);
            }
        }
        nearOf(x, 0, 5);
        nearOf(x, 0, -5);
    }

    private static void nearOf(SquareSums x, long up, long down) {
        due("plant", x.plant(1, up, down), 0);
        double want = (double) x.weight(1, 0) / (double) x.weight(1, 1);
        due("near of " + up + " / " + down, x.near(1), Double.doubleToLongBits(want));
    }

    private static void plant() {
        promise = "14";
        SquareSums x = new SquareSums();
        due("no square", x.plant(0, 1, 1), SquareSums.BAD);
        x = threeSquares();
        due("plant", x.plant(1, 6, -4), 0);
        dueWeight(x, 1, -3, 2);
        due("spoilt", x.check(), 0);
        due("down 0", x.plant(1, 6, 0), SquareSums.BAD);
        due("i above", x.plant(3, 1, 1), SquareSums.BAD);
        due("i below", x.plant(-1, 1, 1), SquareSums.BAD);
        due("least up", x.plant(1, Long.MIN_VALUE, 3), SquareSums.LONG);
        due("least down", x.plant(1, 3, Long.MIN_VALUE), SquareSums.LONG);
        due("least by 0", x.plant(1, Long.MIN_VALUE, 0), SquareSums.BAD);
        dueWeight(x, 1, -3, 2);
        due("zero", x.plant(1, 0, -8), 0);
        dueWeight(x, 1, 0, 1);
        due("most", x.plant(1, -Long.MAX_VALUE, -Long.MAX_VALUE + 1), 0);
        dueWeight(x, 1, Long.MAX_VALUE, Long.MAX_VALUE - 1);
        due("told is as it was", x.told(0), 1);
    }

    private static void check() {
        promise = "15";
        SquareSums x = new SquareSums();
        due("none", x.check(), SquareSums.STATE);
        x = threeSquares();
        due("check", x.check(), 1);
        x.term(0, 1, 1, 77);
        due("as it was then", x.check(), 1);
        x.plant(0, 3, 1);
        due("spoilt", x.check(), 0);
        x.plant(0, Long.MAX_VALUE, 1);
        due("too long ahead of spoilt", x.check(), 2);
        x.plant(0, 2, 1);
        due("mended", x.check(), 1);
        formOf(x, 1, 1, -1);
        due("prove", x.prove(1), 0);
        due("did not answer 1", x.check(), SquareSums.STATE);
        formOf(x);
        due("prove", x.prove(2), 1);
        due("no squares", x.check(), 1);
        SquareSums y = of(4);
        fillLong(y);
        y.prove(0);
        due("did not answer 1", y.check(), SquareSums.STATE);
        // (X1 + 2 X2 + 3)^2: of all items only 2 0, (W * 2) * 3, is too long; 0 2, (W * 3) * 2, is not
        SquareSums z = new SquareSums();
        formOf(z, 1, 1, 1, 2, 2, 4, 0, 0, 9, 1, 2, 4, 0, 1, 6, 0, 2, 12);
        z.prove(0);
        z.plant(0, 2000000000000000000L, 3);
        due("too long below the diagonal", z.check(), 2);
        // (X1 + 3 X2 + 2)^2: here it is 0 2
        z.variables(2);
        formOf(z, 1, 1, 1, 2, 2, 9, 0, 0, 4, 1, 2, 6, 0, 1, 4, 0, 2, 12);
        z.prove(0);
        z.plant(0, 2000000000000000000L, 3);
        due("too long above the diagonal", z.check(), 2);
        // (X1 + 1)^2 + 1: -2^62 and 1 / 2 have the least long as a product, though the sum would fit
        z.variables(1);
        formOf(z, 1, 1, 1, 0, 1, 2, 0, 0, 2);
        z.prove(0);
        z.plant(0, -(1L << 62), 1);
        due("spoilt", z.check(), 0);
        z.plant(1, 1, 2);
        due("the least long", z.check(), 2);
        z.variables(4);
        formOf(z, 0, 0, 9985, 0, 1, -11040, 0, 2, 9410, 0, 3, 3848, 0, 4, -16106, 1, 1, 4289, 1, 2, -8214, 1, 3, -3810,
            1, 4, 10752, 2, 2, 13146, 2, 3, 16814, 2, 4, 4246, 3, 3, 5554, 3, 4, 5668, 4, 4, 12637);
        due("prove", z.prove(0), 1);
        due("too long though not spoilt", z.check(), 2);
    }

    private static void equal() {
        promise = "16";
        SquareSums x = new SquareSums();
        due("none", x.equal(), SquareSums.STATE);
        // (X1 + 2 X2 + 3)^2: X 2 and X 0 are left
        formOf(x, 1, 1, 1, 2, 2, 4, 0, 0, 9, 1, 2, 4, 0, 1, 6, 0, 2, 12);
        x.prove(0);
        due("no point yet", x.point(1, 1), 0);
        due("equal", x.equal(), 1);
        duePoint(x, 1, -3, 1);
        duePoint(x, 2, 0, 1);
        due("again", x.equal(), 1);
        due("told is as it was", x.told(0), 1);
        due("squares stay", x.told(1), 1);
        formOf(x, 1, 1, 1, 0, 0, 1);
        x.prove(1);
        due("nowhere 0", x.equal(), 0);
        due("no point", x.point(1, 1), 0);
        formOf(x, 0, 0, -1);
        x.prove(2);
        due("not proved", x.equal(), SquareSums.STATE);
        duePoint(x, 1, 0, 1);
        formOf(x, 0, 1, 1);
        due("under", x.under(3, 3, 2), 1);
        due("of the lessened", x.equal(), 1);
        duePoint(x, 1, 0, 1);
        SquareSums y = of(4);
        formOf(y, 0, 0, 13185, 0, 1, 14034, 0, 2, 6126, 0, 3, -4904, 0, 4, -20446, 1, 1, 16362, 1, 2, -6186,
            1, 3, -22998, 1, 4, -1104, 2, 2, 6305, 2, 3, 16384, 2, 4, -5610, 3, 3, 15085, 3, 4, -474, 4, 4, 10330);
        due("prove", y.prove(0), 1);
        due("too long", y.equal(), 2);
        due("no point", y.point(1, 1), 0);
        due("still proved", y.check(), 1);
    }

    private static void pivot() {
        promise = "17";
        SquareSums x = new SquareSums();
        due("7 / 2", x.pivot(7, 2), 3);
        due("-7 / 2", x.pivot(-7, 2), -3);
        due("by 0", x.pivot(7, 0), SquareSums.LONG);
        due("0 by 0", x.pivot(0, 0), SquareSums.LONG);
        due("-30 / 1", x.pivot(-30, 1), -30);
        due("least / -1", x.pivot(Long.MIN_VALUE, -1), Long.MIN_VALUE);
    }

    private static void count() {
        promise = "18";
        SquareSums x = of(3);
        formOf(x, 1, 1, 1);
        formOf(x, 1, 1, -1);
        x.prove(0);
        x.prove(1);
        x.prove(2);
        x.under(0, 1, 1);
        x.under(0, 1, 0);
        due("count(0)", x.count(0), 3);
        due("count(1)", x.count(1), 2);
        due("count(2)", x.count(2), 3);
        due("count(3)", x.count(3), SquareSums.BAD);
        due("count(-1)", x.count(-1), SquareSums.BAD);
        x.variables(3);
        due("count(2)", x.count(2), 0);
    }

    /** Numbers far outside are refused as those next to the edge are, in every place of every call. */
    private static void farOutside() {
        promise = "2 to 18, far outside";
        SquareSums x = threeSquares();
        for (int far : new int[] {Integer.MIN_VALUE, Integer.MIN_VALUE + 1, -1000000007, 1 << 30, Integer.MAX_VALUE}) {
            due("variables", x.variables(far), SquareSums.BAD);
            due("term form", x.term(far, 0, 0, 1), -2000000);
            due("term i", x.term(0, far, 0, 1), -2000000);
            due("term j", x.term(0, 0, far, 1), -2000000);
            due("term v", x.term(0, 0, 0, far), -2000000);
            due("value form", x.value(far, 0, 0, 0, 0), -1);
            due("value a", x.value(0, far, 0, 0, 0), -1);
            due("value b", x.value(0, 0, far, 0, 0), -1);
            due("value c, d", x.value(0, 0, 0, far, far), 9);
            due("plain", x.plain(far), SquareSums.BAD);
            due("prove", x.prove(far), SquareSums.BAD);
            due("under goal", x.under(far, 0, 1), SquareSums.BAD);
            due("under condition", x.under(0, far, 1), SquareSums.BAD);
            due("under finer", x.under(0, 0, far), SquareSums.BAD);
            due("told", x.told(far), SquareSums.BAD);
            due("weight i", x.weight(far, 1), 0);
            due("weight part", x.weight(0, far), 0);
            due("line i", x.line(far, 0, 1), 0);
            due("line k", x.line(0, far, 1), 0);
            due("line part", x.line(0, 0, far), 0);
            due("point k", x.point(far, 1), 0);
            due("point part", x.point(1, far), 0);
            due("near", x.near(far), 0);
            due("plant", x.plant(far, 1, 1), SquareSums.BAD);
            due("count", x.count(far), SquareSums.BAD);
        }
        due("nothing changed", x.check(), 1);
        due("nothing proved", x.count(2), 1);
    }

    public static void main(String[] args) {
        farOutside();
        newObject();
        variables();
        form();
        term();
        value();
        plain();
        prove();
        under();
        told();
        weightAndLine();
        point();
        near();
        plant();
        check();
        equal();
        pivot();
        count();
        System.out.println(wrong == 0 ? "all answers are as due" : wrong + " answers are not as due");
        if (wrong != 0) {
            System.exit(1);
        }
    }
}
