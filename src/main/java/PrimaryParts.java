import java.util.Arrays;
import java.util.NoSuchElementException;

/** Eight places with monomial ideals in a, b, c, d, and what primary decomposition tells of them. */
public final class PrimaryParts {
    public static final int NONE = -1;

    private static final int GREAT = -2;
    private static final int MANY = -3;
    private static final int PLACES = 8;
    private static final int VARIABLES = 4;
    private static final int GREATEST_EXPONENT = 12;
    private static final int MOST_GENERATORS = 60;
    private static final int GREATEST_POWER = 9;
    private static final int LAST_SET = 15;
    private static final int LAST_DEGREE = 40;
    private static final int TAPE = 200;
    private static final int HOW_RADICAL = 5;
    private static final int HOW_LAST = 13;

    private final Ideal[] places;
    private final Ideal[] kept;
    private boolean anyKept;
    private final byte[] tape;
    private int taped;
    private int faultPlace;
    private final Stairs view;
    private final Stairs work;
    private final Parts parts;
    private final Pairs pairs;
    private final Rest rest;
    private final Maker maker;
    private final Checker checker;
    private final Reader reader;
    private final Past past;
    private final Speech speech;

    public PrimaryParts() {
        Ideal empty = new Ideal(new int[0], 0);
        places = new Ideal[PLACES];
        kept = new Ideal[PLACES];
        for (int k = 0; k < PLACES; k++) {
            places[k] = empty;
            kept[k] = empty;
        }
        anyKept = false;
        tape = new byte[TAPE];
        taped = 0;
        faultPlace = NONE;
        view = new Stairs();
        work = new Stairs();
        parts = new Parts(view, work);
        pairs = new Pairs(view);
        rest = new Rest();
        maker = new Maker(view, work, parts);
        checker = new Checker();
        reader = new Reader(maker);
        past = new Past();
        speech = new Speech();
    }

    public int feed(int a, int b, int c, int d, int e) {
        if (taped + 20 > TAPE) {
            return NONE;
        }
        feedNumber(a);
        feedNumber(b);
        feedNumber(c);
        feedNumber(d);
        feedNumber(e);
        return taped;
    }

    private void feedNumber(int number) {
        for (int shift = 24; shift >= 0 && taped < TAPE; shift -= 8) {
            tape[taped] = (byte) (number >> shift);
            taped++;
        }
    }

    public int tell(int place, int n) throws IllegalArgumentException {
        if (!isPlace(place) || n < 0 || n > taped) {
            throw new IllegalArgumentException("no such place, or not so many bytes");
        }
        taped = 0;
        int mistake = checker.check(tape, n);
        faultPlace = checker.mistakeAt();
        if (mistake != 0) {
            return -10 - mistake;
        }
        reader.begin(places[place]);
        for (int k = 0; k < checker.size(); k++) {
            reader.take(checker.token(k), places);
        }
        return settle(place, reader.end());
    }

    public int fault() {
        return faultPlace;
    }

    public int make(int place, int how, int i, int j) {
        if (!isPlace(place) || !isPlace(i) || !canMake(how, i, j)) {
            return NONE;
        }
        Ideal ideal = places[i];
        if (how < HOW_RADICAL) {
            return settle(place, maker.combine(how, ideal, places[j]));
        }
        return settle(place, maker.derive(how, ideal, j));
    }

    private boolean canMake(int how, int i, int j) {
        if (how < 0 || how > HOW_LAST) {
            return false;
        }
        if (how < HOW_RADICAL) {
            return isPlace(j);
        }
        switch (how) {
            case 6:
            case 13:
                return j >= 0 && j <= GREATEST_POWER;
            case 7:
            case 9:
                parts.study(places[i]);
                return j >= 0 && j < parts.size();
            case 8:
                parts.study(places[i]);
                return j >= 0 && j < parts.ones();
            case 10:
            case 11:
                return j >= 0 && j <= LAST_SET;
            default:
                return true;
        }
    }

    public int dual(int place, int i, int a, int b, int c, int d) {
        if (!isPlace(place) || !isPlace(i)) {
            return NONE;
        }
        if (!isBoxSide(a) || !isBoxSide(b) || !isBoxSide(c) || !isBoxSide(d)) {
            return NONE;
        }
        int box = Monomial.of(a, b, c, d);
        if (!places[i].isInBox(box)) {
            return NONE;
        }
        return settle(place, maker.dualOf(places[i], box));
    }

    private static boolean isBoxSide(int exponent) {
        return exponent >= 0 && exponent <= GREATEST_EXPONENT;
    }

    /** A refused ideal changes nothing, so the past must not learn of it either. */
    private int settle(int place, Ideal ideal) {
        if (ideal.size >= 0) {
            past.keep(places);
            places[place] = ideal;
        }
        return ideal.size;
    }

    public int count(int place, int what) throws NoSuchElementException {
        Ideal ideal = idealAt(place);
        switch (what) {
            case 0:
                return ideal.size;
            case 1:
                return heightOf(ideal);
            case 2:
                return degreeOf(ideal);
            case 3:
                parts.study(ideal);
                return parts.size();
            case 4:
                parts.study(ideal);
                return parts.howManyEmbedded();
            case 5:
                parts.study(ideal);
                return parts.ones();
            case 6:
                pairs.study(ideal);
                return pairs.total();
            case 7:
                return monomialsOutside(ideal);
            case 8:
                return ideal.isSquareFree() ? 1 : 0;
            case 9:
                parts.study(ideal);
                return parts.size() == 1 ? 1 : 0;
            case 10:
                parts.study(ideal);
                return parts.ones() == 1 ? 1 : 0;
            case 11:
                return ideal.greatestDegree();
            default:
                throw new NoSuchElementException("no such count");
        }
    }

    private int heightOf(Ideal ideal) {
        parts.study(ideal);
        return parts.size() == 0 ? VARIABLES : Integer.bitCount(parts.prime(0));
    }

    private int degreeOf(Ideal ideal) {
        int height = heightOf(ideal);
        pairs.study(ideal);
        int sum = 0;
        for (int p = 0; p < parts.size(); p++) {
            if (Integer.bitCount(parts.prime(p)) == height) {
                sum += pairs.totalOf(LAST_SET ^ parts.prime(p));
            }
        }
        return sum;
    }

    private int monomialsOutside(Ideal ideal) {
        if (heightOf(ideal) < VARIABLES) {
            return NONE;
        }
        pairs.study(ideal);
        return pairs.total();
    }

    public int generator(int place, int i, int variable) throws NoSuchElementException {
        Ideal ideal = idealAt(place);
        if (i < 0 || i >= ideal.size || !isVariable(variable)) {
            throw new NoSuchElementException("no such generator or variable");
        }
        return Monomial.exponent(ideal.key(i), variable);
    }

    public boolean has(int place, int a, int b, int c, int d)
            throws NoSuchElementException, IllegalArgumentException {
        Ideal ideal = idealAt(place);
        if (a < 0 || b < 0 || c < 0 || d < 0) {
            throw new IllegalArgumentException("an exponent below 0");
        }
        return ideal.holds(a, b, c, d);
    }

    public boolean within(int i, int j) throws NoSuchElementException {
        Ideal inner = idealAt(i);
        Ideal wider = idealAt(j);
        return wider.holdsAll(inner);
    }

    public int part(int place, int part, int what) throws NoSuchElementException {
        Ideal ideal = idealWithPart(place, part);
        switch (what) {
            case 0:
                return parts.prime(part);
            case 1:
                return parts.isEmbedded(part) ? 1 : 0;
            case 2:
                return parts.onesOf(part);
            case 3:
                return maker.derive(7, ideal, part).size;
            case 4:
                pairs.study(ideal);
                return pairs.totalOf(LAST_SET ^ parts.prime(part));
            default:
                throw new NoSuchElementException("no such number of a part");
        }
    }

    public int witness(int place, int part, int variable) throws NoSuchElementException {
        idealWithPart(place, part);
        if (!isVariable(variable)) {
            throw new NoSuchElementException("no such variable");
        }
        return Monomial.exponent(parts.witnessOf(part), variable);
    }

    public int proof(int place, int part, int variable) throws NoSuchElementException {
        idealWithPart(place, part);
        if (!isVariable(variable)) {
            throw new NoSuchElementException("no such variable");
        }
        return Monomial.exponent(parts.proofOf(part), variable);
    }

    public int irreducible(int place, int i, int variable) throws NoSuchElementException {
        parts.study(idealAt(place));
        if (i < 0 || i >= parts.ones() || !isVariableOrNone(variable)) {
            throw new NoSuchElementException("no such irreducible one or variable");
        }
        if (variable == NONE) {
            return parts.partWith(i);
        }
        return Parts.side(parts.one(i), variable);
    }

    public int pair(int place, int i, int variable) throws NoSuchElementException {
        pairs.study(idealAt(place));
        if (i < 0 || i >= pairs.total() || !isVariableOrNone(variable)) {
            throw new NoSuchElementException("no such pair or variable");
        }
        pairs.find(i);
        if (variable == NONE) {
            return pairs.foundSet();
        }
        return Monomial.exponent(pairs.foundMonomial(), variable);
    }

    public int outside(int place, int degree) throws NoSuchElementException, IllegalArgumentException {
        Ideal ideal = idealAt(place);
        mindDegree(degree);
        view.show(ideal);
        rest.study(view);
        return rest.ofDegree(degree);
    }

    public int outer(int place, int degree, int i, int variable)
            throws NoSuchElementException, IllegalArgumentException {
        Ideal ideal = idealAt(place);
        if (!isVariable(variable)) {
            throw new NoSuchElementException("no such variable");
        }
        mindDegree(degree);
        view.show(ideal);
        int monomial = Rest.nth(view, degree, i);
        return monomial == NONE ? NONE : Monomial.exponent(monomial, variable);
    }

    public int between(int i, int j, int degree) throws NoSuchElementException, IllegalArgumentException {
        Ideal wider = idealAt(i);
        Ideal inner = idealAt(j);
        mindDegree(degree);
        view.show(inner);
        rest.study(view);
        int withoutInner = rest.ofDegree(degree);
        work.unite(wider, inner);
        rest.study(work);
        return withoutInner - rest.ofDegree(degree);
    }

    public int steady(int place) throws NoSuchElementException {
        view.show(idealAt(place));
        rest.study(view);
        return rest.steadyFrom();
    }

    public int undo() {
        return past.recall(places);
    }

    public int image() {
        int filled = 0;
        for (int k = 0; k < PLACES; k++) {
            kept[k] = places[k];
            if (places[k].size > 0) {
                filled++;
            }
        }
        anyKept = true;
        return filled;
    }

    public boolean back() {
        if (!anyKept) {
            return false;
        }
        past.keep(places);
        for (int k = 0; k < PLACES; k++) {
            places[k] = kept[k];
        }
        return true;
    }

    public int say(int place) throws NoSuchElementException {
        Ideal ideal = idealAt(place);
        return speech.speak(ideal);
    }

    public int said(int i) {
        return speech.byteAt(i);
    }

    private static boolean isPlace(int place) {
        return place >= 0 && place < PLACES;
    }

    private static boolean isVariable(int variable) {
        return variable >= 0 && variable < VARIABLES;
    }

    private static boolean isVariableOrNone(int variable) {
        return variable == NONE || isVariable(variable);
    }

    private static void mindDegree(int degree) {
        if (degree < 0 || degree > LAST_DEGREE) {
            throw new IllegalArgumentException("no such degree");
        }
    }

    private Ideal idealAt(int place) {
        if (!isPlace(place)) {
            throw new NoSuchElementException("no such place");
        }
        return places[place];
    }

    /** Leaves the parts of that ideal studied. */
    private Ideal idealWithPart(int place, int part) {
        Ideal ideal = idealAt(place);
        parts.study(ideal);
        if (part < 0 || part >= parts.size()) {
            throw new NoSuchElementException("no such part");
        }
        return ideal;
    }

    /** Monomials as single numbers whose natural order is ORDER, so that rows of them sort by comparing. */
    private static final class Monomial {
        static final int ONE = 63 << 18 | 63 << 12 | 63 << 6 | 63;
        /** Behind every monomial in ORDER. */
        static final int BEYOND = 0x7fffffff;

        private Monomial() {
        }

        static int of(int a, int b, int c, int d) {
            return (a + b + c + d) << 24 | (63 - a) << 18 | (63 - b) << 12 | (63 - c) << 6 | (63 - d);
        }

        static int power(int variable, int exponent) {
            return of(variable == 0 ? exponent : 0, variable == 1 ? exponent : 0,
                    variable == 2 ? exponent : 0, variable == 3 ? exponent : 0);
        }

        static int exponent(int m, int variable) {
            return 63 - ((m >> (18 - 6 * variable)) & 63);
        }

        static int degree(int m) {
            return m >> 24;
        }

        static int times(int m, int n) {
            return of(exponent(m, 0) + exponent(n, 0), exponent(m, 1) + exponent(n, 1),
                    exponent(m, 2) + exponent(n, 2), exponent(m, 3) + exponent(n, 3));
        }

        /** The least one that both divide. */
        static int join(int m, int n) {
            return of(Math.max(exponent(m, 0), exponent(n, 0)), Math.max(exponent(m, 1), exponent(n, 1)),
                    Math.max(exponent(m, 2), exponent(n, 2)), Math.max(exponent(m, 3), exponent(n, 3)));
        }

        /** Its exponents, but 0 of the variables that are not in the set. */
        static int keep(int m, int set) {
            return of((set & 1) != 0 ? exponent(m, 0) : 0, (set & 2) != 0 ? exponent(m, 1) : 0,
                    (set & 4) != 0 ? exponent(m, 2) : 0, (set & 8) != 0 ? exponent(m, 3) : 0);
        }

        static int squareFree(int m) {
            return of(Math.min(1, exponent(m, 0)), Math.min(1, exponent(m, 1)),
                    Math.min(1, exponent(m, 2)), Math.min(1, exponent(m, 3)));
        }
    }

    /** Never changed once made, so that places, the past and the image may share it. */
    private static final class Ideal {
        /** How many generators; GREAT or MANY: it was refused. */
        final int size;
        private final int[] keys;

        Ideal(int[] from, int size) {
            this.size = size;
            this.keys = Arrays.copyOf(from, Math.max(0, size));
        }

        int key(int i) {
            return i >= 0 && i < keys.length ? keys[i] : Monomial.ONE;
        }

        int top(int variable) {
            int top = 0;
            for (int i = 0; i < keys.length; i++) {
                top = Math.max(top, Monomial.exponent(keys[i], variable));
            }
            return top;
        }

        boolean holds(int a, int b, int c, int d) {
            for (int i = 0; i < keys.length; i++) {
                int m = keys[i];
                if (Monomial.exponent(m, 0) <= a && Monomial.exponent(m, 1) <= b
                        && Monomial.exponent(m, 2) <= c && Monomial.exponent(m, 3) <= d) {
                    return true;
                }
            }
            return false;
        }

        boolean holdsAll(Ideal inner) {
            for (int i = 0; i < inner.keys.length; i++) {
                int m = inner.keys[i];
                if (!holds(Monomial.exponent(m, 0), Monomial.exponent(m, 1),
                        Monomial.exponent(m, 2), Monomial.exponent(m, 3))) {
                    return false;
                }
            }
            return true;
        }

        boolean isLike(Ideal other) {
            if (size != other.size || keys.length != other.keys.length) {
                return false;
            }
            for (int i = 0; i < keys.length; i++) {
                if (keys[i] != other.keys[i]) {
                    return false;
                }
            }
            return true;
        }

        boolean isInBox(int box) {
            for (int v = 0; v < VARIABLES; v++) {
                if (top(v) > Monomial.exponent(box, v)) {
                    return false;
                }
            }
            return true;
        }

        boolean isSquareFree() {
            return top(0) <= 1 && top(1) <= 1 && top(2) <= 1 && top(3) <= 1;
        }

        int greatestDegree() {
            return keys.length == 0 ? NONE : Monomial.degree(keys[keys.length - 1]);
        }
    }

    /**
     * An ideal as a landscape: over each a, b, c the least exponent of d with which it is entered.
     * A coordinate at its top stands for all exponents from there on, as no generator goes higher.
     */
    private static final class Stairs {
        /** One above what is allowed: exponents cut to it still show that a product is GREAT. */
        private static final int WIDEST = GREATEST_EXPONENT + 1;

        private final int[] heights;
        private int topA;
        private int topB;
        private int topC;
        private int topD;
        private int stepA;
        private int stepB;
        private Ideal shown;

        Stairs() {
            heights = new int[(WIDEST + 1) * (WIDEST + 1) * (WIDEST + 1)];
            stepA = 1;
            stepB = 1;
        }

        int topA() {
            return topA;
        }

        int topB() {
            return topB;
        }

        int topC() {
            return topC;
        }

        int topD() {
            return topD;
        }

        private void open(int a, int b, int c, int d) {
            topA = Math.max(0, Math.min(a, WIDEST));
            topB = Math.max(0, Math.min(b, WIDEST));
            topC = Math.max(0, Math.min(c, WIDEST));
            topD = Math.max(0, Math.min(d, WIDEST));
            stepB = topC + 1;
            stepA = stepB * (topB + 1);
            shown = null;
        }

        void openEmpty(int a, int b, int c, int d) {
            open(a, b, c, d);
            Arrays.fill(heights, 0, stepA * (topA + 1), topD + 1);
        }

        /** A whole one, as wide as another landscape. */
        void openWhole(Stairs like) {
            open(like.topA, like.topB, like.topC, like.topD);
            Arrays.fill(heights, 0, stepA * (topA + 1), 0);
        }

        void show(Ideal ideal) {
            if (shown == ideal) {
                return;
            }
            openEmpty(ideal.top(0), ideal.top(1), ideal.top(2), ideal.top(3));
            for (int k = 0; k < ideal.size; k++) {
                lower(ideal.key(k));
            }
            spreadUp();
            shown = ideal;
        }

        /** The sum of two ideals, however many generators it has. */
        void unite(Ideal i, Ideal j) {
            openEmpty(Math.max(i.top(0), j.top(0)), Math.max(i.top(1), j.top(1)),
                    Math.max(i.top(2), j.top(2)), Math.max(i.top(3), j.top(3)));
            for (int k = 0; k < i.size; k++) {
                lower(i.key(k));
            }
            for (int k = 0; k < j.size; k++) {
                lower(j.key(k));
            }
            spreadUp();
        }

        /** A monomial comes into the ideal; spreadUp() brings its multiples. */
        void lower(int m) {
            int x = index(Monomial.exponent(m, 0), Monomial.exponent(m, 1), Monomial.exponent(m, 2));
            heights[x] = Math.min(heights[x], Math.min(Monomial.exponent(m, 3), topD));
        }

        void spreadUp() {
            int x = 0;
            for (int a = 0; a <= topA; a++) {
                for (int b = 0; b <= topB; b++) {
                    for (int c = 0; c <= topC; c++) {
                        int least = heights[x];
                        least = a > 0 ? Math.min(least, heights[x - stepA]) : least;
                        least = b > 0 ? Math.min(least, heights[x - stepB]) : least;
                        least = c > 0 ? Math.min(least, heights[x - 1]) : least;
                        heights[x] = least;
                        x++;
                    }
                }
            }
        }

        /** What is outside an irreducible ideal leaves this one; spreadDown() takes its divisors out. */
        void raise(int one) {
            int a = Parts.side(one, 0);
            int b = Parts.side(one, 1);
            int c = Parts.side(one, 2);
            int d = Parts.side(one, 3);
            int x = index(a == 0 ? topA : a - 1, b == 0 ? topB : b - 1, c == 0 ? topC : c - 1);
            heights[x] = Math.max(heights[x], d == 0 ? topD + 1 : Math.min(d, topD));
        }

        void spreadDown() {
            int x = stepA * (topA + 1) - 1;
            for (int a = topA; a >= 0; a--) {
                for (int b = topB; b >= 0; b--) {
                    for (int c = topC; c >= 0; c--) {
                        int most = heights[x];
                        most = a < topA ? Math.max(most, heights[x + stepA]) : most;
                        most = b < topB ? Math.max(most, heights[x + stepB]) : most;
                        most = c < topC ? Math.max(most, heights[x + 1]) : most;
                        heights[x] = most;
                        x--;
                    }
                }
            }
        }

        int at(int a, int b, int c) {
            return heights[index(a, b, c)];
        }

        private int index(int a, int b, int c) {
            int x = a < 0 ? 0 : a > topA ? topA : a;
            int y = b < 0 ? 0 : b > topB ? topB : b;
            int z = c < 0 ? 0 : c > topC ? topC : c;
            return x * stepA + y * stepB + z;
        }

        /** Whether an irreducible one of the ideal has its corner in this column. */
        boolean isCorner(int a, int b, int c) {
            int x = index(a, b, c);
            int h = heights[x];
            return h > 0 && (a >= topA || heights[x + stepA] < h)
                    && (b >= topB || heights[x + stepB] < h) && (c >= topC || heights[x + 1] < h);
        }

        int corner(int a, int b, int c) {
            int h = heights[index(a, b, c)];
            return Parts.packed(a == topA ? 0 : a + 1, b == topB ? 0 : b + 1,
                    c == topC ? 0 : c + 1, h > topD ? 0 : h);
        }

        /** The generators in their order: how many, GREAT or MANY. */
        int collect(int[] found) {
            int size = 0;
            boolean great = false;
            int x = 0;
            for (int a = 0; a <= topA; a++) {
                for (int b = 0; b <= topB; b++) {
                    for (int c = 0; c <= topC; c++) {
                        int h = heights[x];
                        if (h <= topD && (a == 0 || heights[x - stepA] > h)
                                && (b == 0 || heights[x - stepB] > h) && (c == 0 || heights[x - 1] > h)) {
                            great |= Math.max(Math.max(a, b), Math.max(c, h)) > GREATEST_EXPONENT;
                            if (size < found.length) {
                                found[size] = Monomial.of(a, b, c, h);
                            }
                            size++;
                        }
                        x++;
                    }
                }
            }
            if (great) {
                return GREAT;
            }
            if (size > MOST_GENERATORS || size > found.length) {
                return MANY;
            }
            sort(found, size);
            return size;
        }

        private static void sort(int[] row, int size) {
            for (int i = 1; i < size; i++) {
                int m = row[i];
                int k = i;
                while (k > 0 && row[k - 1] > m) {
                    row[k] = row[k - 1];
                    k--;
                }
                row[k] = m;
            }
        }
    }

    /** The irreducible ones of an ideal, grouped by primes. */
    private static final class Parts {
        private static final int[] PRIMES = {0, 1, 2, 4, 8, 3, 5, 6, 9, 10, 12, 7, 11, 13, 14, 15};
        private static final int MOST_ONES = 2197;

        private final Stairs view;
        private final Stairs work;
        private final int[] ones;
        private final int[] primes;
        private final int[] starts;
        private final int[] next;
        private int size;
        private Ideal studied;

        Parts(Stairs view, Stairs work) {
            this.view = view;
            this.work = work;
            ones = new int[MOST_ONES];
            primes = new int[16];
            starts = new int[17];
            next = new int[16];
        }

        /** An irreducible ideal is told by one number, four bits for each exponent, 0: not made of it. */
        static int packed(int a, int b, int c, int d) {
            return a << 12 | b << 8 | c << 4 | d;
        }

        static int side(int one, int variable) {
            return (one >> (12 - 4 * variable)) & 15;
        }

        private static int primeOf(int one) {
            return ((one >> 12 & 15) != 0 ? 1 : 0) | ((one >> 8 & 15) != 0 ? 2 : 0)
                    | ((one >> 4 & 15) != 0 ? 4 : 0) | ((one & 15) != 0 ? 8 : 0);
        }

        /** Shows the ideal as well. */
        void study(Ideal ideal) {
            view.show(ideal);
            if (studied == ideal) {
                return;
            }
            Arrays.fill(next, 0);
            walk(false);
            layOut();
            walk(true);
            studied = ideal;
        }

        /** Corners come by a, b, c in ascending order, which is the order within each part. */
        private void walk(boolean placing) {
            for (int a = 0; a <= view.topA(); a++) {
                for (int b = 0; b <= view.topB(); b++) {
                    for (int c = 0; c <= view.topC(); c++) {
                        if (view.isCorner(a, b, c)) {
                            meet(view.corner(a, b, c), placing);
                        }
                    }
                }
            }
        }

        private void meet(int one, boolean placing) {
            int prime = primeOf(one);
            int x = next[prime];
            if (placing && x < ones.length) {
                ones[x] = one;
            }
            next[prime] = x + 1;
        }

        /** Turns how many ones each prime has into where its ones begin. */
        private void layOut() {
            size = 0;
            int sum = 0;
            for (int k = 0; k < PRIMES.length; k++) {
                int prime = PRIMES[k];
                int many = next[prime];
                next[prime] = sum;
                if (many > 0) {
                    primes[size] = prime;
                    starts[size] = sum;
                    size++;
                    sum += many;
                }
            }
            starts[size] = sum;
        }

        int size() {
            return size;
        }

        int ones() {
            return starts[size];
        }

        int one(int i) {
            return i >= 0 && i < ones.length ? ones[i] : 0;
        }

        int prime(int p) {
            return p >= 0 && p < size ? primes[p] : 0;
        }

        int onesOf(int p) {
            return p >= 0 && p < size ? starts[p + 1] - starts[p] : 0;
        }

        int partWith(int one) {
            int p = 0;
            while (p + 1 < size && starts[p + 1] <= one) {
                p++;
            }
            return p;
        }

        boolean isEmbedded(int p) {
            for (int q = 0; q < size; q++) {
                if (q != p && (prime(q) & ~prime(p)) == 0) {
                    return true;
                }
            }
            return false;
        }

        int howManyEmbedded() {
            int sum = 0;
            for (int p = 0; p < size; p++) {
                sum += isEmbedded(p) ? 1 : 0;
            }
            return sum;
        }

        /** The parts that are not embedded, as bits. */
        int minimalOnes() {
            int set = 0;
            for (int p = 0; p < size; p++) {
                set |= isEmbedded(p) ? 0 : 1 << p;
            }
            return set;
        }

        /** The meet of some parts, told as bits, comes into the other landscape. */
        void carve(int set) {
            work.openWhole(view);
            for (int p = 0; p < size; p++) {
                if ((set >> p & 1) != 0) {
                    for (int k = starts[p]; k < starts[p + 1] && k < ones.length; k++) {
                        work.raise(ones[k]);
                    }
                }
            }
            work.spreadDown();
        }

        int proofOf(int p) {
            carve(~(1 << p));
            int first = Monomial.BEYOND;
            for (int a = 0; a <= view.topA(); a++) {
                for (int b = 0; b <= view.topB(); b++) {
                    for (int c = 0; c <= view.topC(); c++) {
                        int least = work.at(a, b, c);
                        if (least < view.at(a, b, c)) {
                            first = Math.min(first, Monomial.of(a, b, c, least));
                        }
                    }
                }
            }
            return first;
        }

        int witnessOf(int p) {
            int prime = prime(p);
            int first = Monomial.BEYOND;
            for (int a = 0; a <= view.topA(); a++) {
                for (int b = 0; b <= view.topB(); b++) {
                    for (int c = 0; c <= view.topC(); c++) {
                        int d = witnessIn(a, b, c, prime);
                        if (d != NONE) {
                            first = Math.min(first, Monomial.of(a, b, c, d));
                        }
                    }
                }
            }
            return first;
        }

        /** The least exponent of d with which this column bears witness. */
        private int witnessIn(int a, int b, int c, int prime) {
            int low = 0;
            low = (prime & 1) != 0 ? Math.max(low, view.at(a + 1, b, c)) : low;
            low = (prime & 2) != 0 ? Math.max(low, view.at(a, b + 1, c)) : low;
            low = (prime & 4) != 0 ? Math.max(low, view.at(a, b, c + 1)) : low;
            int far = view.at((prime & 1) != 0 ? a : view.topA(),
                    (prime & 2) != 0 ? b : view.topB(), (prime & 4) != 0 ? c : view.topC());
            if ((prime & 8) == 0) {
                return far > view.topD() && low <= view.topD() ? low : NONE;
            }
            int h = view.at(a, b, c);
            boolean bears = h >= 1 && h <= view.topD() && low < h && far == h;
            return bears ? h - 1 : NONE;
        }
    }

    /** Standard pairs are only tallied by set and degree; one of them is looked for when it is asked. */
    private static final class Pairs {
        private static final int SETS = 16;
        private static final int DEGREES = 4 * GREATEST_EXPONENT + 1;

        private final Stairs view;
        private final int[] tally;
        private final int[] totals;
        private int total;
        private int foundSet;
        private int foundMonomial;
        private Ideal studied;

        Pairs(Stairs view) {
            this.view = view;
            tally = new int[SETS * DEGREES];
            totals = new int[SETS];
            foundMonomial = Monomial.ONE;
        }

        /** Shows the ideal as well. */
        void study(Ideal ideal) {
            view.show(ideal);
            if (studied == ideal) {
                return;
            }
            Arrays.fill(tally, 0);
            Arrays.fill(totals, 0);
            total = 0;
            for (int a = 0; a <= view.topA(); a++) {
                for (int b = 0; b <= view.topB(); b++) {
                    for (int c = 0; c <= view.topC(); c++) {
                        tallyColumn(a, b, c);
                    }
                }
            }
            studied = ideal;
        }

        private void tallyColumn(int a, int b, int c) {
            int set = setOf(a, b, c);
            int base = Monomial.degree(monomialOf(a, b, c, 0));
            int low = lowOf(a, b, c);
            int h = view.at(a, b, c);
            if (h > view.topD()) {
                if (low <= view.topD()) {
                    add(set | 8, base);
                }
                return;
            }
            for (int d = low; d < h; d++) {
                add(set, base + d);
            }
        }

        private void add(int set, int degree) {
            if (set >= 0 && set < SETS && degree >= 0 && degree < DEGREES) {
                tally[set * DEGREES + degree]++;
                totals[set]++;
                total++;
            }
        }

        private int setOf(int a, int b, int c) {
            return (a == view.topA() ? 1 : 0) | (b == view.topB() ? 2 : 0) | (c == view.topC() ? 4 : 0);
        }

        /** A coordinate at its top belongs to the set, so the monomial has none of it. */
        private int monomialOf(int a, int b, int c, int d) {
            return Monomial.of(a == view.topA() ? 0 : a, b == view.topB() ? 0 : b, c == view.topC() ? 0 : c, d);
        }

        /** From which exponent of d on the set can't take in one more of a, b, c. */
        private int lowOf(int a, int b, int c) {
            int low = 0;
            low = a < view.topA() ? Math.max(low, view.at(view.topA(), b, c)) : low;
            low = b < view.topB() ? Math.max(low, view.at(a, view.topB(), c)) : low;
            low = c < view.topC() ? Math.max(low, view.at(a, b, view.topC())) : low;
            return low;
        }

        int total() {
            return total;
        }

        int totalOf(int set) {
            return set >= 0 && set < SETS ? totals[set] : 0;
        }

        private int tallied(int set, int degree) {
            int x = set * DEGREES + degree;
            return x >= 0 && x < tally.length ? tally[x] : 0;
        }

        void find(int i) {
            int left = i;
            int set = 0;
            while (set < SETS - 1 && left >= totalOf(set)) {
                left -= totalOf(set);
                set++;
            }
            int degree = 0;
            while (degree < DEGREES - 1 && left >= tallied(set, degree)) {
                left -= tallied(set, degree);
                degree++;
            }
            foundSet = set;
            foundMonomial = nth(set, degree, left);
        }

        /** Of one degree the greater exponents of a, b, c come first. */
        private int nth(int set, int degree, int i) {
            int left = i;
            for (int a = view.topA(); a >= 0; a--) {
                for (int b = view.topB(); b >= 0; b--) {
                    for (int c = view.topC(); c >= 0; c--) {
                        if (setOf(a, b, c) == (set & 7) && isPair(a, b, c, set, degree)) {
                            if (left == 0) {
                                int bare = monomialOf(a, b, c, 0);
                                return monomialOf(a, b, c, degree - Monomial.degree(bare));
                            }
                            left--;
                        }
                    }
                }
            }
            return Monomial.ONE;
        }

        private boolean isPair(int a, int b, int c, int set, int degree) {
            int d = degree - Monomial.degree(monomialOf(a, b, c, 0));
            int low = lowOf(a, b, c);
            int h = view.at(a, b, c);
            if ((set & 8) != 0) {
                return d == 0 && h > view.topD() && low <= view.topD();
            }
            return h <= view.topD() && d >= low && d < h;
        }

        int foundSet() {
            return foundSet;
        }

        int foundMonomial() {
            return foundMonomial;
        }
    }

    /** How many monomials of each degree are left outside a landscape. */
    private static final class Rest {
        private static final int DEGREES = 4 * GREATEST_EXPONENT + 5;
        private static final int LAST_START = LAST_DEGREE - 4;

        /** For 1 to 4 variables that run free, and the degree from which they run: how many such runs. */
        private final int[] tally;
        private final int[] row;

        Rest() {
            tally = new int[(VARIABLES + 1) * DEGREES];
            row = new int[LAST_DEGREE + 1];
        }

        void study(Stairs stairs) {
            Arrays.fill(tally, 0);
            for (int a = 0; a <= stairs.topA(); a++) {
                for (int b = 0; b <= stairs.topB(); b++) {
                    for (int c = 0; c <= stairs.topC(); c++) {
                        int free = 1 + (a == stairs.topA() ? 1 : 0) + (b == stairs.topB() ? 1 : 0)
                                + (c == stairs.topC() ? 1 : 0);
                        int h = stairs.at(a, b, c);
                        add(free, a + b + c, 1);
                        if (h <= stairs.topD()) {
                            add(free, a + b + c + h, -1);
                        }
                    }
                }
            }
        }

        private void add(int free, int degree, int many) {
            int x = free * DEGREES + degree;
            if (x >= 0 && x < tally.length) {
                tally[x] += many;
            }
        }

        int ofDegree(int degree) {
            int sum = 0;
            for (int free = 1; free <= VARIABLES; free++) {
                for (int start = 0; start <= degree && start < DEGREES; start++) {
                    sum += tally[free * DEGREES + start] * ways(free, degree - start);
                }
            }
            return sum;
        }

        /** How many monomials of a degree there are in so many variables. */
        private static int ways(int variables, int degree) {
            switch (variables) {
                case 1:
                    return 1;
                case 2:
                    return degree + 1;
                case 3:
                    return (degree + 1) * (degree + 2) / 2;
                default:
                    return (degree + 1) * (degree + 2) * (degree + 3) / 6;
            }
        }

        int steadyFrom() {
            for (int n = 0; n <= LAST_DEGREE; n++) {
                row[n] = ofDegree(n);
            }
            int from = LAST_START + 1;
            while (from > 0 && fourthDifference(from - 1) == 0) {
                from--;
            }
            return from > LAST_START ? NONE : from;
        }

        private int fourthDifference(int n) {
            if (n < 0 || n > LAST_START) {
                return 0;
            }
            return row[n] - 4 * row[n + 1] + 6 * row[n + 2] - 4 * row[n + 3] + row[n + 4];
        }

        /** The i-th monomial of a degree outside, in ORDER; NONE: there is none. */
        static int nth(Stairs stairs, int degree, int i) {
            if (i < 0) {
                return NONE;
            }
            int left = i;
            for (int a = degree; a >= 0; a--) {
                for (int b = degree - a; b >= 0; b--) {
                    for (int c = degree - a - b; c >= 0; c--) {
                        int d = degree - a - b - c;
                        int h = stairs.at(a, b, c);
                        if (h > stairs.topD() || d < h) {
                            if (left == 0) {
                                return Monomial.of(a, b, c, d);
                            }
                            left--;
                        }
                    }
                }
            }
            return NONE;
        }
    }

    /** Makes ideals of ideals; those that are refused have a size below 0 and stay refused. */
    private static final class Maker {
        /** Far above what a saturation needs: each quotient but the last takes a monomial more in. */
        private static final int MOST_QUOTIENTS = 1000;

        private final Stairs view;
        private final Stairs work;
        private final Parts parts;
        private final int[] found;
        private final int[] raw;
        private int raws;
        private final Ideal whole;
        private final Ideal great;
        private final Ideal many;

        Maker(Stairs view, Stairs work, Parts parts) {
            this.view = view;
            this.work = work;
            this.parts = parts;
            found = new int[MOST_GENERATORS];
            raw = new int[MOST_GENERATORS];
            raws = 0;
            found[0] = Monomial.ONE;
            whole = new Ideal(found, 1);
            great = new Ideal(found, GREAT);
            many = new Ideal(found, MANY);
        }

        /** What the landscape has come to. */
        private Ideal taken() {
            int size = work.collect(found);
            if (size < 0) {
                return size == GREAT ? great : many;
            }
            return new Ideal(found, size);
        }

        void clear() {
            raws = 0;
        }

        void put(int m) {
            if (raws < raw.length) {
                raw[raws] = m;
                raws++;
            }
        }

        /** The least ideal that has what was put since clear(). */
        Ideal least() {
            work.openEmpty(rawTop(0), rawTop(1), rawTop(2), rawTop(3));
            for (int k = 0; k < raws; k++) {
                work.lower(raw[k]);
            }
            work.spreadUp();
            return taken();
        }

        private int rawTop(int variable) {
            int top = 0;
            for (int k = 0; k < raws; k++) {
                top = Math.max(top, Monomial.exponent(raw[k], variable));
            }
            return top;
        }

        /** how 0 SUM, 1 PRODUCT, 2 MEET, 3 QUOTIENT, else SATURATION; without a first one the second. */
        Ideal combine(int how, Ideal i, Ideal j) {
            if (i == null) {
                return j;
            }
            switch (how) {
                case 0:
                    work.unite(i, j);
                    return taken();
                case 1:
                    return productOf(i, j);
                case 2:
                    return meetOf(i, j);
                case 3:
                    return quotientOf(i, j, 1);
                default:
                    return quotientOf(i, j, MOST_QUOTIENTS);
            }
        }

        private Ideal productOf(Ideal i, Ideal j) {
            work.openEmpty(i.top(0) + j.top(0), i.top(1) + j.top(1), i.top(2) + j.top(2), i.top(3) + j.top(3));
            for (int x = 0; x < i.size; x++) {
                for (int y = 0; y < j.size; y++) {
                    work.lower(Monomial.times(i.key(x), j.key(y)));
                }
            }
            work.spreadUp();
            return taken();
        }

        private Ideal meetOf(Ideal i, Ideal j) {
            work.openEmpty(Math.max(i.top(0), j.top(0)), Math.max(i.top(1), j.top(1)),
                    Math.max(i.top(2), j.top(2)), Math.max(i.top(3), j.top(3)));
            for (int x = 0; x < i.size; x++) {
                for (int y = 0; y < j.size; y++) {
                    work.lower(Monomial.join(i.key(x), j.key(y)));
                }
            }
            work.spreadUp();
            return taken();
        }

        /** Quotients in turn until one stays or is refused, but at most so many. */
        private Ideal quotientOf(Ideal i, Ideal j, int most) {
            Ideal now = i;
            for (int round = 0; round < most; round++) {
                parts.study(now);
                work.openWhole(view);
                for (int k = 0; k < parts.ones(); k++) {
                    raiseQuotients(parts.one(k), j);
                }
                work.spreadDown();
                Ideal next = taken();
                if (next.size < 0 || next.isLike(now)) {
                    return next;
                }
                now = next;
            }
            return now;
        }

        /** An irreducible ideal's quotient by a monomial is irreducible too, or whole. */
        private void raiseQuotients(int one, Ideal j) {
            for (int y = 0; y < j.size; y++) {
                int m = j.key(y);
                int a = less(one, m, 0);
                int b = less(one, m, 1);
                int c = less(one, m, 2);
                int d = less(one, m, 3);
                if (a >= 0 && b >= 0 && c >= 0 && d >= 0) {
                    work.raise(Parts.packed(a, b, c, d));
                }
            }
        }

        /** NONE: by this variable the monomial lies in the irreducible ideal. */
        private static int less(int one, int m, int variable) {
            int side = Parts.side(one, variable);
            if (side == 0) {
                return 0;
            }
            int left = side - Monomial.exponent(m, variable);
            return left > 0 ? left : NONE;
        }

        /** What make() makes of one ideal and a number that has been looked at, how 5 to 13. */
        Ideal derive(int how, Ideal ideal, int j) {
            switch (how) {
                case 5:
                    return radicalOf(ideal);
                case 6:
                    return powerOf(ideal, j);
                case 7:
                    return partOf(ideal, j);
                case 8:
                    parts.study(ideal);
                    return irreducibleBy(parts.one(j));
                case 9:
                    parts.study(ideal);
                    return primeBy(parts.prime(j));
                case 10:
                    return seenWithout(ideal, j);
                case 11:
                    return madeOf(ideal, j);
                case 12:
                    return coreOf(ideal);
                default:
                    return deepPowerOf(ideal, j);
            }
        }

        Ideal radicalOf(Ideal ideal) {
            clear();
            for (int i = 0; i < ideal.size; i++) {
                put(Monomial.squareFree(ideal.key(i)));
            }
            return least();
        }

        Ideal powerOf(Ideal ideal, int n) {
            if (n == 0) {
                return whole;
            }
            Ideal now = ideal;
            for (int k = 1; k < n && now.size >= 0; k++) {
                now = productOf(now, ideal);
            }
            return now;
        }

        private Ideal partOf(Ideal ideal, int p) {
            parts.study(ideal);
            parts.carve(1 << p);
            return taken();
        }

        private Ideal irreducibleBy(int one) {
            clear();
            for (int v = 0; v < VARIABLES; v++) {
                putPower(v, Parts.side(one, v));
            }
            return least();
        }

        private Ideal primeBy(int prime) {
            clear();
            for (int v = 0; v < VARIABLES; v++) {
                putPower(v, prime >> v & 1);
            }
            return least();
        }

        private void putPower(int variable, int exponent) {
            if (exponent > 0) {
                put(Monomial.power(variable, exponent));
            }
        }

        private Ideal seenWithout(Ideal ideal, int set) {
            clear();
            for (int i = 0; i < ideal.size; i++) {
                put(Monomial.keep(ideal.key(i), ~set));
            }
            return least();
        }

        private Ideal madeOf(Ideal ideal, int set) {
            clear();
            for (int i = 0; i < ideal.size; i++) {
                int m = ideal.key(i);
                if (Monomial.keep(m, set) == m) {
                    put(m);
                }
            }
            return least();
        }

        private Ideal coreOf(Ideal ideal) {
            parts.study(ideal);
            parts.carve(parts.minimalOnes());
            return taken();
        }

        /** The primes of minimal parts are those of each power, and SEEN so a power is its own part there. */
        private Ideal deepPowerOf(Ideal ideal, int n) {
            Ideal power = powerOf(ideal, n);
            return power.size < 0 ? power : coreOf(power);
        }

        Ideal dualOf(Ideal ideal, int box) {
            parts.study(ideal);
            work.openEmpty(Monomial.exponent(box, 0), Monomial.exponent(box, 1),
                    Monomial.exponent(box, 2), Monomial.exponent(box, 3));
            for (int k = 0; k < parts.ones(); k++) {
                int one = parts.one(k);
                work.lower(Monomial.of(turned(one, box, 0), turned(one, box, 1),
                        turned(one, box, 2), turned(one, box, 3)));
            }
            work.spreadUp();
            return taken();
        }

        private static int turned(int one, int box, int variable) {
            int side = Parts.side(one, variable);
            return side == 0 ? 0 : Monomial.exponent(box, variable) + 1 - side;
        }
    }

    /** Looks for the first fault of a text, and leaves its tokens. */
    private static final class Checker {
        /** A number's token is this and its value; any other token is its byte. */
        static final int NUMBER = 256;

        private static final int ENOUGH = 1000;
        private static final int MOST_OPEN = 6;
        private static final int MOST_MONOMIALS = 24;
        private static final int BASE = 0;
        private static final int FIRST = 1;
        private static final int NEXT = 2;
        private static final int LETTER = 3;
        private static final int POWERED = 4;
        private static final int ONE = 5;
        private static final int HASH = 6;
        private static final int CARET = 7;
        private static final int DONE = 8;

        private final int[] tokens;
        private int size;
        private int state;
        /** What is open, the latest one in the lowest bit: 1 'r', 0 '['. */
        private int open;
        private int depth;
        private int monomials;
        private int letters;
        private int place;

        Checker() {
            tokens = new int[TAPE];
            place = NONE;
        }

        int size() {
            return size;
        }

        int token(int k) {
            return k >= 0 && k < size ? tokens[k] : 0;
        }

        int mistakeAt() {
            return place;
        }

        static boolean isFigure(int sign) {
            return sign >= '0' && sign <= '9';
        }

        static boolean isLetter(int token) {
            return token >= 'a' && token <= 'd';
        }

        static boolean isSign(int token) {
            return token == '+' || token == '*' || token == '&' || token == ':' || token == '!';
        }

        /** The first fault, 0: none. */
        int check(byte[] text, int n) {
            int length = Math.min(n, Math.min(text.length, tokens.length));
            size = 0;
            state = BASE;
            depth = 0;
            open = 0;
            for (int at = 0; at < length; at++) {
                int sign = text[at] & 255;
                if (sign == ' ' || sign == '\n') {
                    continue;
                }
                int start = at;
                int token = sign;
                if (isFigure(sign)) {
                    int value = sign - '0';
                    while (at + 1 < length && isFigure(text[at + 1] & 255)) {
                        at++;
                        value = Math.min(ENOUGH, value * 10 + (text[at] & 255) - '0');
                    }
                    token = NUMBER + value;
                }
                int mistake = step(token);
                if (mistake != 0) {
                    place = start;
                    return mistake;
                }
                tokens[size] = token;
                size++;
            }
            boolean whole = state == DONE && depth == 0;
            place = whole ? NONE : n;
            return whole ? 0 : 1;
        }

        private int step(int token) {
            switch (state) {
                case BASE:
                    return beginBase(token);
                case FIRST:
                    return token == ')' ? endBase() : beginMonomial(token);
                case NEXT:
                    return beginMonomial(token);
                case LETTER:
                    return token >= NUMBER ? number(token, 1, GREATEST_EXPONENT, POWERED) : inMonomial(token, true);
                case POWERED:
                    return inMonomial(token, true);
                case ONE:
                    return inMonomial(token, false);
                case HASH:
                    int mistake = number(token, 0, PLACES - 1, DONE);
                    return mistake != 0 ? mistake : endBase();
                case CARET:
                    return number(token, 0, GREATEST_POWER, DONE);
                default:
                    return behindBase(token);
            }
        }

        private int beginBase(int token) {
            if (token == '(') {
                monomials = 0;
                state = FIRST;
                return 0;
            }
            if (token == '#') {
                state = HASH;
                return 0;
            }
            if (token != 'r' && token != '[') {
                return 1;
            }
            if (depth >= MOST_OPEN) {
                return 4;
            }
            open = open << 1 | (token == 'r' ? 1 : 0);
            depth++;
            return 0;
        }

        /** Each 'r' that waited for this base has it now, and is a base that ends itself. */
        private int endBase() {
            while (depth > 0 && (open & 1) != 0) {
                open >>= 1;
                depth--;
            }
            state = DONE;
            return 0;
        }

        private int beginMonomial(int token) {
            if (!isLetter(token) && token != NUMBER + 1) {
                return 1;
            }
            if (monomials >= MOST_MONOMIALS) {
                return 4;
            }
            monomials++;
            letters = isLetter(token) ? 1 << (token - 'a') : 0;
            state = isLetter(token) ? LETTER : ONE;
            return 0;
        }

        private int inMonomial(int token, boolean letterMayFollow) {
            if (token == ')') {
                return endBase();
            }
            if (token == ',') {
                state = NEXT;
                return 0;
            }
            if (!letterMayFollow || !isLetter(token)) {
                return 1;
            }
            int bit = 1 << (token - 'a');
            if ((letters & bit) != 0) {
                return 3;
            }
            letters |= bit;
            state = LETTER;
            return 0;
        }

        private int number(int token, int least, int most, int then) {
            if (token < NUMBER) {
                return 1;
            }
            if (token < NUMBER + least || token > NUMBER + most) {
                return 2;
            }
            state = then;
            return 0;
        }

        private int behindBase(int token) {
            if (token == '^') {
                state = CARET;
                return 0;
            }
            if (isSign(token)) {
                state = BASE;
                return 0;
            }
            if (token != ']' || depth == 0) {
                return 1;
            }
            open >>= 1;
            depth--;
            return endBase();
        }
    }

    /** Works out a text that has been found without fault, token by token. */
    private static final class Reader {
        private static final int DEEPEST = 6;

        private final Maker maker;
        /** Of each expression that is open: what stands ahead of its latest sign (null: nothing), and the sign. */
        private final Ideal[] lefts;
        private final int[] signs;
        /** Whether an 'r' was opened there, and no bracket. */
        private final boolean[] roots;
        private int depth;
        private Ideal value;
        private boolean inList;
        /** The monomial that is being read; whether it has begun; its latest letter. */
        private int monomial;
        private boolean begun;
        private int letter;
        private boolean powerComes;

        Reader(Maker maker) {
            this.maker = maker;
            lefts = new Ideal[DEEPEST + 1];
            signs = new int[DEEPEST + 1];
            roots = new boolean[DEEPEST + 1];
        }

        /** Any ideal that was not refused will do: the first base takes its stead. */
        void begin(Ideal any) {
            value = any;
            depth = 0;
            lefts[0] = null;
            roots[0] = false;
            inList = false;
        }

        Ideal end() {
            return value.size < 0 ? value : maker.combine(signs[0], lefts[0], value);
        }

        /** Nothing is taken behind the first ideal that is refused, as that one tells which it is. */
        void take(int token, Ideal[] places) {
            if (value.size < 0) {
                return;
            }
            boolean ends = false;
            if (inList) {
                ends = takeListed(token);
            } else if (token >= Checker.NUMBER) {
                ends = takeNumber(token - Checker.NUMBER, places);
            } else if (token == '(') {
                openList();
            } else if (token == '[' || token == 'r') {
                open(token == 'r');
            } else if (token == '#' || token == '^') {
                powerComes = token == '^';
            } else {
                value = maker.combine(signs[depth], lefts[depth], value);
                lefts[depth] = value;
                signs[depth] = signOf(token);
                ends = token == ']' && depth > 0;
                depth = ends ? depth - 1 : depth;
            }
            if (ends) {
                endBase();
            }
        }

        private void open(boolean isRoot) {
            depth = Math.min(depth + 1, DEEPEST);
            lefts[depth] = null;
            roots[depth] = isRoot;
        }

        /** Each 'r' that waited for this base has it now. */
        private void endBase() {
            while (depth > 0 && roots[depth] && value.size >= 0) {
                value = maker.radicalOf(value);
                depth--;
            }
        }

        /** Whether a base ends by it. */
        private boolean takeNumber(int number, Ideal[] places) {
            if (powerComes) {
                value = maker.powerOf(value, number);
                return false;
            }
            value = number >= 0 && number < places.length ? places[number] : value;
            return true;
        }

        private static int signOf(int token) {
            switch (token) {
                case '+':
                    return 0;
                case '*':
                    return 1;
                case '&':
                    return 2;
                case ':':
                    return 3;
                default:
                    return 4;
            }
        }

        private void openList() {
            maker.clear();
            inList = true;
            nextMonomial();
        }

        private void nextMonomial() {
            monomial = Monomial.ONE;
            begun = false;
            letter = NONE;
        }

        /** Whether the list ends by it. */
        private boolean takeListed(int token) {
            if (token == ',' || token == ')') {
                endMonomial();
                inList = token == ',';
                value = inList ? value : maker.least();
                return !inList;
            }
            begun = true;
            if (token < Checker.NUMBER) {
                letter = token - 'a';
                monomial = Monomial.times(monomial, Monomial.power(letter, 1));
            } else if (letter != NONE) {
                // the letter itself has told the first one
                monomial = Monomial.times(monomial, Monomial.power(letter, token - Checker.NUMBER - 1));
            }
            return false;
        }

        private void endMonomial() {
            if (begun) {
                maker.put(monomial);
            }
            nextMonomial();
        }
    }

    /** The places as they were ahead of each of the latest acts. */
    private static final class Past {
        private static final int MOST = 20;

        private final Ideal[] rows;
        private int size;
        private int next;

        Past() {
            rows = new Ideal[MOST * PLACES];
        }

        void keep(Ideal[] places) {
            for (int k = 0; k < PLACES; k++) {
                rows[next * PLACES + k] = places[k];
            }
            next = next + 1 < MOST ? next + 1 : 0;
            size = Math.min(MOST, size + 1);
        }

        /** How many are left; NONE: there was none. */
        int recall(Ideal[] places) {
            if (size == 0) {
                return NONE;
            }
            size--;
            next = next > 0 ? next - 1 : MOST - 1;
            for (int k = 0; k < PLACES; k++) {
                places[k] = rows[next * PLACES + k];
            }
            return size;
        }
    }

    /** The latest ideal that was said, byte by byte. */
    private static final class Speech {
        /** Sixty generators of twelve bytes, commas between, parentheses round them: 781. */
        private static final int LONGEST = 800;

        private final byte[] bytes;
        private int size;

        Speech() {
            bytes = new byte[LONGEST];
        }

        int byteAt(int i) {
            return i >= 0 && i < size ? bytes[i] : NONE;
        }

        int speak(Ideal ideal) {
            size = 0;
            put('(');
            for (int i = 0; i < ideal.size; i++) {
                if (i > 0) {
                    put(',');
                }
                putMonomial(ideal.key(i));
            }
            put(')');
            return size;
        }

        private void putMonomial(int m) {
            if (m == Monomial.ONE) {
                put('1');
            }
            for (int v = 0; v < VARIABLES; v++) {
                int exponent = Monomial.exponent(m, v);
                if (exponent > 0) {
                    put('a' + v);
                }
                if (exponent > 9) {
                    put('0' + exponent / 10);
                }
                if (exponent > 1) {
                    put('0' + exponent % 10);
                }
            }
        }

        private void put(int sign) {
            if (size < bytes.length) {
                bytes[size] = (byte) sign;
                size++;
            }
        }
    }
}
