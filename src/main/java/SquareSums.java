/**
 * Proves forms of the second degree to be nowhere below 0 by squares with weights, exactly, in fractions, or tells a
 * point where they are below.
 *
 * <p>All rows are made with the object and used again: no call makes an object.
 */
public final class SquareSums {
    public static final int BAD = -1, STATE = -2, FULL = -3, LONG = -30;

    private static final int MOST_VARIABLES = 4;
    private static final int SIZE = MOST_VARIABLES + 1;
    private static final int MOST_FORMS = 12;
    private static final int MOST_NUMBER = 1000000;
    private static final int BAD_TERM = -2000000;
    private static final int MOST_WHOLE = 1000;
    private static final int MOST_FINER = 20;
    private static final int LAST_TOLD = 6;
    private static final int PLAIN_BY_ZERO = -10;
    private static final int GRID = 3;
    private static final int GRID_WIDTH = 2 * GRID + 1;
    private static final int DOUBLINGS = 40;
    private static final long LEAST = -9223372036854775807L - 1L;

    private static final int NEGATIVE = 0, DONE = 1, TOO_LONG = 2;

    private final Calculator work = new Calculator();
    private final Forms forms = new Forms();
    private final Elimination proof = new Elimination(work);
    // plain() has rows of its own, so that it leaves the squares that were proved as they are
    private final Elimination trial = new Elimination(work);
    private final Fractions place = new Fractions(SIZE);
    private final long[] whole = new long[SIZE];
    private int n = 2;
    private int proofs;
    private int answer;
    private int goalForm;
    private int conditionForm;
    private int multiplierUp;
    private int multiplierDown;
    private int tried;
    private boolean placeThere;

    public SquareSums() {
        forget();
    }

    public int variables(int n) {
        if (n < 1 || n > MOST_VARIABLES) {
            return BAD;
        }
        int before = forms.many;
        this.n = n;
        forms.many = 0;
        proofs = 0;
        forget();
        return before;
    }

    public int form() {
        if (forms.many >= MOST_FORMS) {
            return FULL;
        }
        return forms.make();
    }

    public int term(int form, int i, int j, int v) {
        if (!isForm(form) || !isIndex(i) || !isIndex(j) || v < -MOST_NUMBER || v > MOST_NUMBER) {
            return BAD_TERM;
        }
        int before = forms.number(form, i, j);
        forms.setNumber(form, i, j, v);
        return before;
    }

    public long value(int form, int a, int b, int c, int d) {
        if (!isForm(form)) {
            return BAD;
        }
        setWhole(a, b, c, d);
        for (int k = 1; k <= n; k++) {
            if (whole[k] < -MOST_WHOLE || whole[k] > MOST_WHOLE) {
                return BAD;
            }
        }
        return valueAtWhole(form);
    }

    public int plain(int form) {
        if (!isForm(form)) {
            return BAD;
        }
        work.begin();
        loadMatrix(trial, form);
        return trial.countWithoutLooking();
    }

    public int prove(int form) {
        if (!isForm(form)) {
            return BAD;
        }
        beginProof(form, -1);
        work.begin();
        loadMatrix(proof, form);
        answer = proof.eliminate();
        if (answer == NEGATIVE) {
            placeThere = placeByWitness(form);
            answer = placeThere ? NEGATIVE : TOO_LONG;
        }
        if (answer != DONE) {
            proof.squares = 0;
        }
        return answer;
    }

    public int under(int goal, int condition, int finer) {
        if (!isForm(goal) || !isForm(condition) || finer < 1 || finer > MOST_FINER) {
            return BAD;
        }
        beginProof(goal, condition);
        if (findMultiplier(finer)) {
            answer = DONE;
            return answer;
        }
        proof.squares = 0;
        placeThere = findWholePlace();
        answer = placeThere ? NEGATIVE : TOO_LONG;
        return answer;
    }

    public int told(int what) {
        if (what < 0 || what > LAST_TOLD) {
            return BAD;
        }
        if (proofs == 0) {
            return STATE;
        }
        switch (what) {
            case 0:
                return answer;
            case 1:
                return proof.squares;
            case 2:
                return goalForm;
            case 3:
                return conditionForm;
            case 4:
                return multiplierUp;
            case 5:
                return multiplierDown;
            default:
                return tried;
        }
    }

    public long weight(int i, int part) {
        if (!isSquare(i) || !isPart(part)) {
            return 0;
        }
        return proof.weights.part(i, part);
    }

    public long line(int i, int k, int part) {
        if (!isSquare(i) || !isIndex(k) || !isPart(part)) {
            return 0;
        }
        return proof.lines.part(cell(i, rankOf(k)), part);
    }

    public long point(int k, int part) {
        if (!placeThere || k < 1 || !isIndex(k) || !isPart(part)) {
            return 0;
        }
        return place.part(k, part);
    }

    public long near(int i) {
        if (!isSquare(i)) {
            return 0;
        }
        return bitsOf((double) proof.weights.up[i] / (double) proof.weights.down[i]);
    }

    public int plant(int i, long up, long down) {
        if (!isSquare(i) || down == 0) {
            return BAD;
        }
        work.begin();
        work.lowest(up, down);
        if (work.tooLong) {
            return LONG;
        }
        proof.weights.put(i, work.up, work.down);
        return 0;
    }

    public int check() {
        if (!isProved()) {
            return STATE;
        }
        work.begin();
        boolean same = proof.squaresAreStart();
        if (work.tooLong) {
            return TOO_LONG;
        }
        return same ? 1 : 0;
    }

    public int equal() {
        if (!isProved()) {
            return STATE;
        }
        if (!proof.left[rankOf(0)]) {
            return 0;
        }
        work.begin();
        proof.witness.clear();
        proof.witness.put(rankOf(0), 1, 1);
        proof.fillWitness();
        placeThere = placeByQuotients();
        return placeThere ? 1 : TOO_LONG;
    }

    public long pivot(long v, long d) {
        if (d == 0) {
            return LONG;
        }
        return v / d;
    }

    public int count(int what) {
        switch (what) {
            case 0:
                return n;
            case 1:
                return forms.many;
            case 2:
                return proofs;
            default:
                return BAD;
        }
    }

    private boolean isForm(int form) {
        return form >= 0 && form < forms.many;
    }

    private boolean isIndex(int k) {
        return k >= 0 && k <= n;
    }

    private boolean isSquare(int i) {
        return i >= 0 && i < proof.squares;
    }

    private static boolean isPart(int part) {
        return part == 0 || part == 1;
    }

    private boolean isProved() {
        return proofs > 0 && answer == DONE;
    }

    private void forget() {
        answer = TOO_LONG;
        proof.squares = 0;
        placeThere = false;
        tried = 0;
        multiplierUp = 0;
        multiplierDown = 1;
    }

    private void beginProof(int goal, int condition) {
        forget();
        proofs++;
        goalForm = goal;
        conditionForm = condition;
    }

    /** Rows and columns stand in THE ORDER, X 0 as the last: the first of several is the one of the lowest rank. */
    private int rankOf(int index) {
        return index == 0 ? n : index - 1;
    }

    private int indexOf(int rank) {
        return rank == n ? 0 : rank + 1;
    }

    private static int cell(int row, int column) {
        return row * SIZE + column;
    }

    private void setWhole(int a, int b, int c, int d) {
        whole[0] = 1;
        whole[1] = a;
        whole[2] = b;
        whole[3] = c;
        whole[4] = d;
    }

    /** Longs hold it: 15 items of at most a million times a thousand times a thousand. */
    private long valueAtWhole(int form) {
        long sum = 0;
        for (int i = 0; i <= n; i++) {
            for (int j = i; j <= n; j++) {
                sum += forms.number(form, i, j) * whole[i] * whole[j];
            }
        }
        return sum;
    }

    private boolean isBelowAtPlace(int form) {
        long up = 0;
        long down = 1;
        for (int i = 0; i <= n; i++) {
            for (int j = i; j <= n; j++) {
                work.multiply(forms.number(form, i, j), 1, place.up[i], place.down[i]);
                work.multiply(work.up, work.down, place.up[j], place.down[j]);
                work.add(up, down, work.up, work.down);
                up = work.up;
                down = work.down;
            }
        }
        return !work.tooLong && up < 0;
    }

    private void setMatrixItem(int form, int row, int column) {
        int i = indexOf(row);
        int j = indexOf(column);
        work.lowest(forms.number(form, i, j), i == j ? 1 : 2);
    }

    private void loadMatrix(Elimination to, int form) {
        to.size = n + 1;
        for (int row = 0; row <= n; row++) {
            for (int column = 0; column <= n; column++) {
                setMatrixItem(form, row, column);
                to.start.put(cell(row, column), work.up, work.down);
            }
        }
    }

    private void lessenMatrix(Elimination of, int form, int up, int down) {
        for (int row = 0; row <= n; row++) {
            for (int column = 0; column <= n; column++) {
                int at = cell(row, column);
                setMatrixItem(form, row, column);
                work.multiply(up, down, work.up, work.down);
                work.subtract(of.start.up[at], of.start.down[at], work.up, work.down);
                of.start.put(at, work.up, work.down);
            }
        }
    }

    private boolean findMultiplier(int finer) {
        for (int s = 1; s <= finer; s++) {
            for (int q = 1; q <= s; q++) {
                if (isLowest(s - q, q) && isDoneWith(s - q, q)) {
                    multiplierUp = s - q;
                    multiplierDown = q;
                    return true;
                }
            }
        }
        return false;
    }

    private boolean isLowest(int up, int down) {
        work.begin();
        work.lowest(up, down);
        return work.down == down;
    }

    private boolean isDoneWith(int up, int down) {
        tried++;
        work.begin();
        loadMatrix(proof, goalForm);
        lessenMatrix(proof, conditionForm, up, down);
        return proof.eliminate() == DONE;
    }

    private boolean findWholePlace() {
        int places = 1;
        for (int k = 1; k <= n; k++) {
            places *= GRID_WIDTH;
        }
        for (int number = 0; number < places; number++) {
            setGridPlace(number);
            if (valueAtWhole(conditionForm) >= 0 && valueAtWhole(goalForm) < 0) {
                for (int k = 0; k <= n; k++) {
                    place.put(k, whole[k], 1);
                }
                return true;
            }
        }
        return false;
    }

    /** The last variable changes fastest, as the places are looked at with X 1 outermost. */
    private void setGridPlace(int number) {
        int rest = number;
        whole[0] = 1;
        for (int k = n; k >= 1; k--) {
            whole[k] = rest % GRID_WIDTH - GRID;
            rest /= GRID_WIDTH;
        }
    }

    private boolean placeByWitness(int form) {
        proof.startWitness();
        proof.fillWitness();
        if (work.tooLong) {
            return false;
        }
        if (proof.witness.up[rankOf(0)] != 0) {
            return placeByQuotients();
        }
        return placeByDoubling(form);
    }

    private boolean placeByQuotients() {
        Fractions witness = proof.witness;
        int last = rankOf(0);
        place.put(0, 1, 1);
        for (int k = 1; k <= n; k++) {
            int rank = rankOf(k);
            work.divide(witness.up[rank], witness.down[rank], witness.up[last], witness.down[last]);
            place.put(k, work.up, work.down);
        }
        return !work.tooLong;
    }

    private boolean placeByDoubling(int form) {
        place.put(0, 1, 1);
        for (int power = 0; power <= DOUBLINGS; power++) {
            for (int k = 1; k <= n; k++) {
                int rank = rankOf(k);
                work.multiply(1L << power, 1, proof.witness.up[rank], proof.witness.down[rank]);
                place.put(k, work.up, work.down);
            }
            if (isBelowAtPlace(form)) {
                return true;
            }
            if (work.tooLong) {
                return false;
            }
        }
        return false;
    }

    /** Double.doubleToLongBits is outside the library that the class keeps to; x is 0 or of 2^-63 to 2^63 in size. */
    private static long bitsOf(double x) {
        if (x == 0.0) {
            return 0;
        }
        double rest = x < 0.0 ? 0.0 - x : x;
        long exponent = 1023;
        for (int step = 0; step < 100 && rest >= 2.0; step++) {
            rest = rest / 2.0;
            exponent++;
        }
        for (int step = 0; step < 100 && rest < 1.0; step++) {
            rest = rest * 2.0;
            exponent--;
        }
        long bits = (exponent << 52) | (long) ((rest - 1.0) * 4503599627370496.0);
        return x < 0.0 ? bits | LEAST : bits;
    }

    /**
     * Fractions worked in longs. That something was too long is kept until begin(), so that it need not be asked after
     * every step; from then on all results are 0 / 1, with which every later step is safe.
     */
    private static final class Calculator {
        long up;
        long down = 1;
        boolean tooLong;

        void begin() {
            up = 0;
            down = 1;
            tooLong = false;
        }

        void add(long a, long b, long c, long d) {
            lowest(sum(product(a, d), product(c, b)), product(b, d));
        }

        void subtract(long a, long b, long c, long d) {
            lowest(sum(product(a, d), -product(c, b)), product(b, d));
        }

        void multiply(long a, long b, long c, long d) {
            lowest(product(a, c), product(b, d));
        }

        void divide(long a, long b, long c, long d) {
            lowest(product(a, d), product(b, c));
        }

        void lowest(long a, long b) {
            if (tooLong || a == LEAST || b == LEAST || b == 0) {
                tooLong = true;
                up = 0;
                down = 1;
                return;
            }
            long common = Math.abs(b);
            long smaller = Math.abs(a);
            // Euclid's steps: of longs there are fewer than a hundred
            for (int step = 0; step < 200 && smaller != 0; step++) {
                long rest = common % smaller;
                common = smaller;
                smaller = rest;
            }
            up = b < 0 ? -(a / common) : a / common;
            down = Math.abs(b) / common;
        }

        private long product(long a, long b) {
            long result = a * b;
            if (result == LEAST || (a != 0 && result / a != b)) {
                tooLong = true;
                return 0;
            }
            return result;
        }

        private long sum(long a, long b) {
            long result = a + b;
            if (result == LEAST || ((a ^ result) & (b ^ result)) < 0) {
                tooLong = true;
                return 0;
            }
            return result;
        }
    }

    /** A row of fractions. */
    private static final class Fractions {
        final long[] up;
        final long[] down;

        Fractions(int size) {
            int length = Math.max(0, size);
            up = new long[length];
            down = new long[length];
            clear();
        }

        void clear() {
            for (int at = 0; at < up.length; at++) {
                put(at, 0, 1);
            }
        }

        void put(int at, long newUp, long newDown) {
            up[at] = newUp;
            down[at] = newDown;
        }

        void copyFrom(Fractions other) {
            for (int at = 0; at < up.length && at < other.up.length; at++) {
                put(at, other.up[at], other.down[at]);
            }
        }

        long part(int at, int part) {
            return part == 0 ? up[at] : down[at];
        }

        boolean isAt(int at, long otherUp, long otherDown) {
            return up[at] == otherUp && down[at] == otherDown;
        }
    }

    /** The numbers v i j of all forms. */
    private static final class Forms {
        int many;
        private final int[] numbers = new int[MOST_FORMS * SIZE * SIZE];

        int make() {
            int start = many * SIZE * SIZE;
            for (int at = start; at < start + SIZE * SIZE; at++) {
                numbers[at] = 0;
            }
            many++;
            return many - 1;
        }

        int number(int form, int i, int j) {
            return numbers[spot(form, i, j)];
        }

        void setNumber(int form, int i, int j, int v) {
            numbers[spot(form, i, j)] = v;
        }

        private static int spot(int form, int i, int j) {
            return form * SIZE * SIZE + cell(Math.min(i, j), Math.max(i, j));
        }
    }

    /** Takes a matrix apart into squares; its rows and columns go by rank, not by index. */
    private static final class Elimination {
        final Calculator work;
        final Fractions start = new Fractions(SIZE * SIZE);
        final Fractions rest = new Fractions(SIZE * SIZE);
        final Fractions weights = new Fractions(SIZE);
        final Fractions lines = new Fractions(SIZE * SIZE);
        final Fractions witness = new Fractions(SIZE);
        final int[] pivots = new int[SIZE];
        final boolean[] left = new boolean[SIZE];
        int size;
        int squares;
        // by which it was negative; second is -1 where it was one alone
        int first;
        int second;

        Elimination(Calculator work) {
            this.work = work;
        }

        int eliminate() {
            begin();
            // every turn but the last takes one of those left away
            for (int turn = 0; turn <= size; turn++) {
                if (work.tooLong) {
                    return TOO_LONG;
                }
                if (findBelow()) {
                    return NEGATIVE;
                }
                int k = firstAbove();
                if (k < 0) {
                    return findPair() ? NEGATIVE : DONE;
                }
                addSquare(k);
                lessenByLastSquare();
            }
            return DONE;
        }

        int countWithoutLooking() {
            begin();
            int above = 0;
            for (int turn = 0; turn < size; turn++) {
                long up = rest.up[cell(turn, turn)];
                if (up == 0) {
                    return PLAIN_BY_ZERO - turn;
                }
                if (up > 0) {
                    above++;
                }
                addSquare(turn);
                lessenByLastSquare();
                if (work.tooLong) {
                    return LONG;
                }
            }
            return above;
        }

        private void begin() {
            rest.copyFrom(start);
            lines.clear();
            squares = 0;
            for (int k = 0; k < SIZE; k++) {
                left[k] = k < size;
            }
        }

        private boolean findBelow() {
            for (int k = 0; k < size; k++) {
                if (left[k] && rest.up[cell(k, k)] < 0) {
                    first = k;
                    second = -1;
                    return true;
                }
            }
            return false;
        }

        private int firstAbove() {
            for (int k = 0; k < size; k++) {
                if (left[k] && rest.up[cell(k, k)] > 0) {
                    return k;
                }
            }
            return -1;
        }

        private boolean findPair() {
            for (int i = 0; i < size; i++) {
                for (int j = i + 1; j < size; j++) {
                    if (left[i] && left[j] && rest.up[cell(i, j)] != 0) {
                        first = i;
                        second = j;
                        return true;
                    }
                }
            }
            return false;
        }

        private void addSquare(int k) {
            int own = cell(k, k);
            int square = squares;
            squares++;
            pivots[square] = k;
            left[k] = false;
            weights.put(square, rest.up[own], rest.down[own]);
            lines.put(cell(square, k), 1, 1);
            for (int j = 0; j < size; j++) {
                if (left[j]) {
                    int at = cell(k, j);
                    work.divide(rest.up[at], rest.down[at], rest.up[own], rest.down[own]);
                    lines.put(cell(square, j), work.up, work.down);
                }
            }
        }

        private void lessenByLastSquare() {
            int square = squares - 1;
            int k = pivots[square];
            for (int i = 0; i < size; i++) {
                for (int j = i; j < size; j++) {
                    if (left[i] && left[j]) {
                        int at = cell(i, j);
                        int factor = cell(i, k);
                        int inLine = cell(square, j);
                        work.multiply(rest.up[factor], rest.down[factor], lines.up[inLine], lines.down[inLine]);
                        work.subtract(rest.up[at], rest.down[at], work.up, work.down);
                        rest.put(at, work.up, work.down);
                        rest.put(cell(j, i), work.up, work.down);
                    }
                }
            }
        }

        void startWitness() {
            witness.clear();
            witness.put(first, 1, 1);
            if (second >= 0) {
                witness.put(second, rest.up[cell(first, second)] > 0 ? -1 : 1, 1);
            }
        }

        /** A line is 0 at the pivots of earlier squares, so their numbers, not yet there, add nothing. */
        void fillWitness() {
            for (int square = squares - 1; square >= 0; square--) {
                int k = pivots[square];
                long up = 0;
                long down = 1;
                for (int j = 0; j < size; j++) {
                    if (j != k) {
                        int at = cell(square, j);
                        work.multiply(lines.up[at], lines.down[at], witness.up[j], witness.down[j]);
                        work.add(up, down, work.up, work.down);
                        up = work.up;
                        down = work.down;
                    }
                }
                work.subtract(0, 1, up, down);
                witness.put(k, work.up, work.down);
            }
        }

        /** Goes on behind an item that differs: one that is too long may follow, and it tells more. */
        boolean squaresAreStart() {
            boolean same = true;
            for (int i = 0; i < size; i++) {
                for (int j = 0; j < size; j++) {
                    expand(i, j);
                    same = start.isAt(cell(i, j), work.up, work.down) && same;
                }
            }
            return same;
        }

        private void expand(int i, int j) {
            long up = 0;
            long down = 1;
            for (int square = 0; square < squares; square++) {
                int atI = cell(square, i);
                int atJ = cell(square, j);
                work.multiply(weights.up[square], weights.down[square], lines.up[atI], lines.down[atI]);
                work.multiply(work.up, work.down, lines.up[atJ], lines.down[atJ]);
                work.add(up, down, work.up, work.down);
                up = work.up;
                down = work.down;
            }
            work.lowest(up, down);
        }
    }
}
