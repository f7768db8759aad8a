import java.util.ArrayList;
import java.util.List;

/**
 * "Of several refusals the first one here: BAD (there is no such thing, a number is not as told), STATE, FULL; they
 * change nothing." Every refused call is made in every state of an object; then the object is held, with all that can
 * be asked of it, against a twin on which the call was not made.
 */
public final class RefusalsTest {
    private static final int LEAST_INT = Integer.MIN_VALUE, MOST_INT = Integer.MAX_VALUE;

    private interface Call {
        long on(SquareSums x);
    }

    private record Refused(String name, long due, Call call) {}

    private record Scene(String name, Runnable steps) {}

    private static int wrong = 0;
    private static int made = 0;
    private static SquareSums scene;

    private static void due(String what, long got, long want) {
        if (got != want && wrong++ < 40) {
            System.out.println(what + " answered " + got + ", due is " + want);
        }
    }

    private static int formOf(int... terms) {
        int form = scene.form();
        for (int at = 0; at < terms.length; at += 3) {
            scene.term(form, terms[at], terms[at + 1], terms[at + 2]);
        }
        return form;
    }

    /** 2 (X1 - 3/4 X2 + 1/2)^2 + .., with three squares. */
    private static void threeSquares() {
        formOf(1, 1, 2, 1, 2, -3, 0, 1, 2, 2, 2, 4, 0, 2, 1, 0, 0, 9);
    }

    private static List<Scene> scenes() {
        List<Scene> all = new ArrayList<>();
        all.add(new Scene("a new object", () -> { }));
        all.add(new Scene("one form, nothing proved", () -> formOf(1, 1, 5, 0, 2, -7)));
        all.add(new Scene("proved, three squares", () -> {
            threeSquares();
            due("prove", scene.prove(0), 1);
        }));
        all.add(new Scene("proved, a weight planted", () -> {
            threeSquares();
            scene.prove(0);
            due("plant", scene.plant(1, -7, 3), 0);
        }));
        all.add(new Scene("proved without a square", () -> {
            formOf();
            due("prove", scene.prove(0), 1);
        }));
        all.add(new Scene("proved, a point by equal()", () -> {
            formOf(1, 1, 1, 2, 2, 4, 0, 0, 9, 1, 2, 4, 0, 1, 6, 0, 2, 12);
            scene.prove(0);
            due("equal", scene.equal(), 1);
        }));
        all.add(new Scene("negative, a point", () -> {
            formOf(1, 1, 1, 0, 1, 3, 0, 0, 1);
            due("prove", scene.prove(0), 0);
        }));
        all.add(new Scene("neither proved nor negative", () -> {
            formOf(1, 1, 1 << 19, 1, 2, 1, 0, 2, 1 << 19);
            due("prove", scene.prove(0), 2);
        }));
        all.add(new Scene("proved by a multiplier", () -> {
            scene.variables(1);
            formOf(0, 1, 2, 0, 0, 1);
            formOf(0, 1, 3);
            due("under", scene.under(0, 1, 5), 1);
        }));
        all.add(new Scene("negative under a condition", () -> {
            scene.variables(3);
            formOf(0, 1, 1, 0, 3, 1);
            formOf(0, 1, 1, 0, 0, 2);
            due("under", scene.under(0, 1, 3), 0);
        }));
        all.add(new Scene("neither, under a condition", () -> {
            scene.variables(4);
            formOf(0, 1, 1);
            formOf(0, 0, -1);
            due("under", scene.under(0, 1, 2), 2);
        }));
        all.add(new Scene("twelve forms, four variables, five squares", () -> {
            scene.variables(4);
            for (int form = 0; form < 12; form++) {
                formOf(0, 0, form + 1, 1, 1, 2, 2, 2, 3, 3, 3, 4, 4, 4, 5);
            }
            due("prove", scene.prove(11), 1);
        }));
        all.add(new Scene("variables anew", () -> {
            threeSquares();
            scene.prove(0);
            scene.variables(2);
        }));
        return all;
    }

    private static SquareSums make(Scene of) {
        scene = new SquareSums();
        of.steps.run();
        return scene;
    }

    private static void variablesAndForms(List<Refused> all, SquareSums x) {
        int n = x.count(0), forms = x.count(1);
        for (int bad : new int[] {0, 5, -1, LEAST_INT, MOST_INT}) {
            all.add(new Refused("variables(" + bad + ")", -1, y -> y.variables(bad)));
        }
        if (forms == 12) {
            all.add(new Refused("form()", -3, y -> y.form()));
        }
        for (int bad : new int[] {-1, forms, 12, LEAST_INT, MOST_INT}) {
            all.add(new Refused("term(" + bad + ", 0, 0, 1)", -2000000, y -> y.term(bad, 0, 0, 1)));
            all.add(new Refused("value(" + bad + ", 0 ..)", -1, y -> y.value(bad, 0, 0, 0, 0)));
            all.add(new Refused("plain(" + bad + ")", -1, y -> y.plain(bad)));
            all.add(new Refused("prove(" + bad + ")", -1, y -> y.prove(bad)));
            all.add(new Refused("under(" + bad + ", 0, 1)", -1, y -> y.under(bad, 0, 1)));
            all.add(new Refused("under(0, " + bad + ", 1)", -1, y -> y.under(0, bad, 1)));
        }
        for (int bad : new int[] {-1, n + 1, 5, LEAST_INT, MOST_INT}) {
            all.add(new Refused("term(0, " + bad + ", 0, 1)", -2000000, y -> y.term(0, bad, 0, 1)));
            all.add(new Refused("term(0, 0, " + bad + ", 1)", -2000000, y -> y.term(0, 0, bad, 1)));
        }
        for (int bad : new int[] {-1000001, 1000001, LEAST_INT, MOST_INT}) {
            all.add(new Refused("term(0, 0, 0, " + bad + ")", -2000000, y -> y.term(0, 0, 0, bad)));
        }
        for (int bad : new int[] {0, 21, -1, LEAST_INT, MOST_INT}) {
            all.add(new Refused("under(0, 0, " + bad + ")", -1, y -> y.under(0, 0, bad)));
        }
        for (int bad : new int[] {-1001, 1001, LEAST_INT, MOST_INT}) {
            all.add(new Refused("value(0, " + bad + ", 0, 0, 0)", -1, y -> y.value(0, bad, 0, 0, 0)));
            if (n >= 2) {
                all.add(new Refused("value(0, 0, " + bad + ", 0, 0)", -1, y -> y.value(0, 0, bad, 0, 0)));
            }
            if (n >= 3) {
                all.add(new Refused("value(0, 0, 0, " + bad + ", 0)", -1, y -> y.value(0, 0, 0, bad, 0)));
            }
            if (n >= 4) {
                all.add(new Refused("value(0, 0, 0, 0, " + bad + ")", -1, y -> y.value(0, 0, 0, 0, bad)));
            }
        }
    }

    private static void whatWasProved(List<Refused> all, SquareSums x) {
        int n = x.count(0), squares = x.count(2) == 0 ? 0 : x.told(1);
        for (int bad : new int[] {-1, 7, LEAST_INT, MOST_INT}) {
            all.add(new Refused("told(" + bad + "), BAD ahead of STATE", -1, y -> y.told(bad)));
        }
        for (int bad : new int[] {-1, 3, LEAST_INT, MOST_INT}) {
            all.add(new Refused("count(" + bad + ")", -1, y -> y.count(bad)));
        }
        for (int bad : new int[] {-1, squares, 5, LEAST_INT, MOST_INT}) {
            for (int part = 0; part <= 1; part++) {
                int p = part;
                all.add(new Refused("weight(" + bad + ", " + p + ")", 0, y -> y.weight(bad, p)));
                all.add(new Refused("line(" + bad + ", 0, " + p + ")", 0, y -> y.line(bad, 0, p)));
            }
            all.add(new Refused("near(" + bad + ")", 0, y -> y.near(bad)));
            all.add(new Refused("plant(" + bad + ", 1, 1)", -1, y -> y.plant(bad, 1, 1)));
            all.add(new Refused("plant(" + bad + ", least, 1), BAD ahead of LONG", -1,
                y -> y.plant(bad, Long.MIN_VALUE, 1)));
        }
        for (int bad : new int[] {-1, 2, LEAST_INT, MOST_INT}) {
            all.add(new Refused("weight(0, " + bad + ")", 0, y -> y.weight(0, bad)));
            all.add(new Refused("line(0, 0, " + bad + ")", 0, y -> y.line(0, 0, bad)));
            all.add(new Refused("point(1, " + bad + ")", 0, y -> y.point(1, bad)));
        }
        for (int bad : new int[] {-1, n + 1, 5, LEAST_INT, MOST_INT}) {
            all.add(new Refused("line(0, " + bad + ", 0)", 0, y -> y.line(0, bad, 0)));
            all.add(new Refused("line(0, " + bad + ", 1)", 0, y -> y.line(0, bad, 1)));
            all.add(new Refused("point(" + bad + ", 0)", 0, y -> y.point(bad, 0)));
            all.add(new Refused("point(" + bad + ", 1)", 0, y -> y.point(bad, 1)));
        }
        all.add(new Refused("point(0, 0)", 0, y -> y.point(0, 0)));
        all.add(new Refused("point(0, 1)", 0, y -> y.point(0, 1)));
        all.add(new Refused("plant(0, 1, 0)", -1, y -> y.plant(0, 1, 0)));
        all.add(new Refused("plant(0, least, 0), BAD ahead of LONG", -1, y -> y.plant(0, Long.MIN_VALUE, 0)));
        if (squares > 0) {
            all.add(new Refused("plant(0, least, 1)", -30, y -> y.plant(0, Long.MIN_VALUE, 1)));
            all.add(new Refused("plant(0, 1, least)", -30, y -> y.plant(0, 1, Long.MIN_VALUE)));
            all.add(new Refused("plant(0, 0, least)", -30, y -> y.plant(0, 0, Long.MIN_VALUE)));
            all.add(new Refused("plant(last, least, least)", -30,
                y -> y.plant(squares - 1, Long.MIN_VALUE, Long.MIN_VALUE)));
        }
        all.add(new Refused("pivot(5, 0)", -30, y -> y.pivot(5, 0)));
    }

    private static void notProved(List<Refused> all, SquareSums x) {
        boolean none = x.count(2) == 0;
        for (int what = 0; none && what <= 6; what++) {
            int w = what;
            all.add(new Refused("told(" + w + ")", -2, y -> y.told(w)));
        }
        if (none || x.told(0) != 1) {
            all.add(new Refused("check()", -2, y -> y.check()));
            all.add(new Refused("equal()", -2, y -> y.equal()));
        }
        boolean point = x.point(1, 1) != 0;
        for (int k = 1; !point && k <= x.count(0); k++) {
            int p = k;
            all.add(new Refused("point(" + p + ", 0)", 0, y -> y.point(p, 0)));
            all.add(new Refused("point(" + p + ", 1)", 0, y -> y.point(p, 1)));
        }
    }

    /** All that can be asked of an object; what changes it comes last. */
    private static List<Long> all(SquareSums x) {
        List<Long> answers = new ArrayList<>();
        for (int what = 0; what <= 6; what++) {
            answers.add((long) x.told(what));
            answers.add((long) x.count(what));
        }
        addSquares(answers, x);
        addPoint(answers, x);
        answers.add((long) x.check());
        answers.add((long) x.equal());
        addPoint(answers, x);
        for (int form = 0; form < 12; form++) {
            answers.add(x.value(form, 3, -5, 7, 11));
            answers.add((long) x.plain(form));
        }
        for (int form = 0; form < x.count(1); form++) {
            for (int i = 0; i <= x.count(0); i++) {
                for (int j = i; j <= x.count(0); j++) {
                    answers.add((long) x.term(form, i, j, 0));
                }
            }
        }
        answers.add((long) x.form());
        answers.add((long) x.variables(1));
        return answers;
    }

    private static void addSquares(List<Long> answers, SquareSums x) {
        for (int i = 0; i < 5; i++) {
            answers.add(x.near(i));
            for (int part = 0; part <= 1; part++) {
                answers.add(x.weight(i, part));
                for (int k = 0; k <= 4; k++) {
                    answers.add(x.line(i, k, part));
                }
            }
        }
    }

    private static void addPoint(List<Long> answers, SquareSums x) {
        for (int k = 1; k <= 4; k++) {
            answers.add(x.point(k, 0));
            answers.add(x.point(k, 1));
        }
    }

    private static void hold(Scene of) {
        List<Refused> refused = new ArrayList<>();
        variablesAndForms(refused, make(of));
        whatWasProved(refused, make(of));
        notProved(refused, make(of));
        List<Long> twin = all(make(of));
        for (Refused one : refused) {
            SquareSums x = make(of);
            due(of.name + ": " + one.name, one.call.on(x), one.due);
            due(of.name + ": " + one.name + " again", one.call.on(x), one.due);
            if (!all(x).equals(twin) && wrong++ < 40) {
                System.out.println(of.name + ": " + one.name + " changed something");
            }
            made++;
        }
        SquareSums x = make(of);
        for (Refused one : refused) {
            one.call.on(x);
        }
        if (!all(x).equals(twin)) {
            wrong++;
            System.out.println(of.name + ": all refused calls together changed something");
        }
    }

    public static void main(String[] args) {
        for (Scene of : scenes()) {
            hold(of);
        }
        System.out.println(made + " refused calls");
        System.out.println(wrong == 0 ? "all answers are as due" : wrong + " answers are not as due");
        if (wrong != 0) {
            System.exit(1);
        }
    }
}
