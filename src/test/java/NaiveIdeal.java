import java.util.ArrayList;
import java.util.List;

/** A monomial ideal by the document's words alone: slow, plain, and made otherwise than the program. */
final class NaiveIdeal {
    final List<int[]> gens = new ArrayList<>();
    private List<int[]> ones;
    private List<int[]> pairs;

    static NaiveIdeal of(List<int[]> raw) {
        NaiveIdeal made = new NaiveIdeal();
        for (int[] m : raw) {
            boolean least = true;
            for (int[] n : raw) {
                least &= !(divides(n, m) && !same(n, m));
            }
            if (least && !made.lists(m)) {
                made.gens.add(m);
            }
        }
        made.gens.sort(NaiveIdeal::order);
        return made;
    }

    static NaiveIdeal whole() {
        return of(List.of(new int[4]));
    }

    static int degree(int[] m) {
        return m[0] + m[1] + m[2] + m[3];
    }

    static int order(int[] m, int[] n) {
        if (degree(m) != degree(n)) {
            return Integer.compare(degree(m), degree(n));
        }
        for (int v = 0; v < 4; v++) {
            if (m[v] != n[v]) {
                return Integer.compare(n[v], m[v]);
            }
        }
        return 0;
    }

    static boolean divides(int[] m, int[] n) {
        return m[0] <= n[0] && m[1] <= n[1] && m[2] <= n[2] && m[3] <= n[3];
    }

    static boolean same(int[] m, int[] n) {
        return m[0] == n[0] && m[1] == n[1] && m[2] == n[2] && m[3] == n[3];
    }

    private boolean lists(int[] m) {
        for (int[] g : gens) {
            if (same(g, m)) {
                return true;
            }
        }
        return false;
    }

    boolean has(int[] m) {
        for (int[] g : gens) {
            if (divides(g, m)) {
                return true;
            }
        }
        return false;
    }

    boolean isIn(NaiveIdeal other) {
        for (int[] g : gens) {
            if (!other.has(g)) {
                return false;
            }
        }
        return true;
    }

    boolean like(NaiveIdeal other) {
        return isIn(other) && other.isIn(this);
    }

    boolean isWhole() {
        return has(new int[4]);
    }

    boolean isEmpty() {
        return gens.isEmpty();
    }

    int top(int v) {
        int top = 0;
        for (int[] g : gens) {
            top = Math.max(top, g[v]);
        }
        return top;
    }

    int[] tops() {
        return new int[] {top(0), top(1), top(2), top(3)};
    }

    /** 0: fine, -2 GREAT, -3 MANY. */
    int refusal() {
        for (int v = 0; v < 4; v++) {
            if (top(v) > 12) {
                return -2;
            }
        }
        return gens.size() > 60 ? -3 : 0;
    }

    /** All monomials that divide this one. */
    static List<int[]> box(int[] most) {
        List<int[]> all = new ArrayList<>();
        for (int a = 0; a <= most[0]; a++) {
            for (int b = 0; b <= most[1]; b++) {
                for (int c = 0; c <= most[2]; c++) {
                    for (int d = 0; d <= most[3]; d++) {
                        all.add(new int[] {a, b, c, d});
                    }
                }
            }
        }
        return all;
    }

    static List<int[]> ofDegree(int n) {
        List<int[]> all = new ArrayList<>();
        for (int a = n; a >= 0; a--) {
            for (int b = n - a; b >= 0; b--) {
                for (int c = n - a - b; c >= 0; c--) {
                    all.add(new int[] {a, b, c, n - a - b - c});
                }
            }
        }
        return all;
    }

    static int[] times(int[] m, int[] n) {
        return new int[] {m[0] + n[0], m[1] + n[1], m[2] + n[2], m[3] + n[3]};
    }

    NaiveIdeal sum(NaiveIdeal j) {
        List<int[]> raw = new ArrayList<>(gens);
        raw.addAll(j.gens);
        return of(raw);
    }

    NaiveIdeal product(NaiveIdeal j) {
        List<int[]> raw = new ArrayList<>();
        for (int[] m : gens) {
            for (int[] n : j.gens) {
                raw.add(times(m, n));
            }
        }
        return of(raw);
    }

    NaiveIdeal meet(NaiveIdeal j) {
        List<int[]> raw = new ArrayList<>();
        for (int[] m : gens) {
            for (int[] n : j.gens) {
                raw.add(new int[] {Math.max(m[0], n[0]), Math.max(m[1], n[1]),
                    Math.max(m[2], n[2]), Math.max(m[3], n[3])});
            }
        }
        return of(raw);
    }

    /** The least ones of the box for which the test holds; the test must be one of an ideal that fits in it. */
    interface Test {
        boolean holds(int[] m);
    }

    private static NaiveIdeal leastWith(int[] box, Test test) {
        List<int[]> raw = new ArrayList<>();
        for (int[] m : box(box)) {
            if (!test.holds(m)) {
                continue;
            }
            boolean least = true;
            for (int v = 0; v < 4 && least; v++) {
                if (m[v] > 0) {
                    int[] n = m.clone();
                    n[v]--;
                    least = !test.holds(n);
                }
            }
            if (least) {
                raw.add(m);
            }
        }
        return of(raw);
    }

    NaiveIdeal quotient(NaiveIdeal j) {
        return leastWith(tops(), m -> {
            for (int[] n : j.gens) {
                if (!has(times(m, n))) {
                    return false;
                }
            }
            return true;
        });
    }

    NaiveIdeal radical() {
        return leastWith(new int[] {1, 1, 1, 1}, m -> has(new int[] {12 * m[0], 12 * m[1], 12 * m[2], 12 * m[3]}));
    }

    NaiveIdeal seenWithout(int set) {
        return leastWith(tops(), m -> {
            int[] n = m.clone();
            for (int v = 0; v < 4; v++) {
                n[v] += (set >> v & 1) != 0 ? 12 : 0;
            }
            return has(n);
        });
    }

    NaiveIdeal only(int set) {
        List<int[]> raw = new ArrayList<>();
        for (int[] g : gens) {
            boolean fits = true;
            for (int v = 0; v < 4; v++) {
                fits &= g[v] == 0 || (set >> v & 1) != 0;
            }
            if (fits) {
                raw.add(g);
            }
        }
        return of(raw);
    }

    static NaiveIdeal irreducible(int[] one) {
        List<int[]> raw = new ArrayList<>();
        for (int v = 0; v < 4; v++) {
            if (one[v] > 0) {
                int[] m = new int[4];
                m[v] = one[v];
                raw.add(m);
            }
        }
        return of(raw);
    }

    static int primeOf(int[] one) {
        int set = 0;
        for (int v = 0; v < 4; v++) {
            set |= one[v] > 0 ? 1 << v : 0;
        }
        return set;
    }

    static NaiveIdeal prime(int set) {
        return irreducible(new int[] {set & 1, set >> 1 & 1, set >> 2 & 1, set >> 3 & 1});
    }

    /** Adds generators one by one: a meet of irreducible ones and a monomial splits by its variables. */
    List<int[]> ones() {
        if (ones == null) {
            ones = findOnes();
        }
        return ones;
    }

    private List<int[]> findOnes() {
        List<int[]> now = new ArrayList<>();
        now.add(new int[4]);
        for (int[] g : gens) {
            List<int[]> next = new ArrayList<>();
            for (int[] one : now) {
                for (int v = 0; v < 4; v++) {
                    if (g[v] > 0) {
                        int[] more = one.clone();
                        more[v] = one[v] == 0 ? g[v] : Math.min(one[v], g[v]);
                        next.add(more);
                    }
                }
            }
            now = fewest(next);
        }
        now.sort(NaiveIdeal::orderOfOnes);
        return now;
    }

    private static List<int[]> fewest(List<int[]> all) {
        List<int[]> kept = new ArrayList<>();
        for (int x = 0; x < all.size(); x++) {
            boolean needed = true;
            for (int y = 0; y < all.size() && needed; y++) {
                boolean within = y != x && oneIsIn(all.get(y), all.get(x));
                boolean alike = within && oneIsIn(all.get(x), all.get(y));
                needed = !within || alike && x < y;
            }
            if (needed) {
                kept.add(all.get(x));
            }
        }
        return kept;
    }

    /** Whether the irreducible ideal of the one lies in that of the other. */
    private static boolean oneIsIn(int[] one, int[] other) {
        for (int v = 0; v < 4; v++) {
            if (one[v] > 0 && (other[v] == 0 || other[v] > one[v])) {
                return false;
            }
        }
        return true;
    }

    static int orderOfPrimes(int p, int q) {
        int byNumber = Integer.compare(Integer.bitCount(p), Integer.bitCount(q));
        return byNumber != 0 ? byNumber : Integer.compare(p, q);
    }

    private static int orderOfOnes(int[] x, int[] y) {
        int byPrime = orderOfPrimes(primeOf(x), primeOf(y));
        if (byPrime != 0) {
            return byPrime;
        }
        for (int v = 0; v < 4; v++) {
            if (x[v] != y[v]) {
                return Integer.compare(x[v], y[v]);
            }
        }
        return 0;
    }

    List<Integer> primes() {
        List<Integer> all = new ArrayList<>();
        for (int[] one : ones()) {
            if (!all.contains(primeOf(one))) {
                all.add(primeOf(one));
            }
        }
        return all;
    }

    NaiveIdeal part(int p) {
        int prime = primes().get(p);
        NaiveIdeal made = whole();
        for (int[] one : ones()) {
            if (primeOf(one) == prime) {
                made = made.meet(irreducible(one));
            }
        }
        return made;
    }

    boolean isEmbedded(int p) {
        List<Integer> primes = primes();
        for (int q = 0; q < primes.size(); q++) {
            if (q != p && (primes.get(q) & primes.get(p)) == primes.get(q)) {
                return true;
            }
        }
        return false;
    }

    NaiveIdeal core() {
        NaiveIdeal made = whole();
        for (int p = 0; p < primes().size(); p++) {
            if (!isEmbedded(p)) {
                made = made.meet(part(p));
            }
        }
        return made;
    }

    /** By the document's words; the power is given. */
    NaiveIdeal deepOf(NaiveIdeal power) {
        NaiveIdeal made = whole();
        for (int p = 0; p < primes().size(); p++) {
            if (!isEmbedded(p)) {
                made = made.meet(power.seenWithout(15 ^ primes().get(p)));
            }
        }
        return made;
    }

    private NaiveIdeal quotientBy(int[] m) {
        List<int[]> raw = new ArrayList<>();
        for (int[] g : gens) {
            raw.add(new int[] {Math.max(0, g[0] - m[0]), Math.max(0, g[1] - m[1]),
                Math.max(0, g[2] - m[2]), Math.max(0, g[3] - m[3])});
        }
        return of(raw);
    }

    int[] witness(int p) {
        NaiveIdeal prime = prime(primes().get(p));
        int[] tops = tops();
        for (int n = 0; n <= 48; n++) {
            for (int[] m : ofDegree(n)) {
                if (divides(m, tops) && quotientBy(m).like(prime)) {
                    return m;
                }
            }
        }
        return null;
    }

    int[] proof(int p) {
        NaiveIdeal others = whole();
        for (int q = 0; q < primes().size(); q++) {
            if (q != p) {
                others = others.meet(part(q));
            }
        }
        int[] best = null;
        for (int[] m : others.gens) {
            if (!has(m) && (best == null || order(m, best) < 0)) {
                best = m;
            }
        }
        return best;
    }

    /** Each with five numbers: the monomial's and the set. */
    List<int[]> pairs() {
        if (pairs == null) {
            pairs = findPairs();
        }
        return pairs;
    }

    private List<int[]> findPairs() {
        List<int[]> all = new ArrayList<>();
        int[] tops = tops();
        for (int set = 0; set < 16; set++) {
            int[] most = tops.clone();
            for (int v = 0; v < 4; v++) {
                most[v] = (set >> v & 1) != 0 ? 0 : most[v];
            }
            for (int[] m : box(most)) {
                if (runsOutside(m, set) && !isCovered(m, set)) {
                    all.add(new int[] {m[0], m[1], m[2], m[3], set});
                }
            }
        }
        all.sort((x, y) -> x[4] != y[4] ? Integer.compare(x[4], y[4]) : order(x, y));
        return all;
    }

    private boolean runsOutside(int[] m, int set) {
        int[] far = m.clone();
        for (int v = 0; v < 4; v++) {
            far[v] = (set >> v & 1) != 0 ? 12 : far[v];
        }
        return !has(far);
    }

    /** A pair that covers has a greater set, and is like it but for what that set has. */
    private boolean isCovered(int[] m, int set) {
        for (int more = 0; more < 16; more++) {
            if (more == set || (more & set) != set) {
                continue;
            }
            int[] bare = m.clone();
            for (int v = 0; v < 4; v++) {
                bare[v] = (more >> v & 1) != 0 ? 0 : bare[v];
            }
            if (runsOutside(bare, more)) {
                return true;
            }
        }
        return false;
    }

    int height() {
        int least = 4;
        for (int prime : primes()) {
            least = Math.min(least, Integer.bitCount(prime));
        }
        return least;
    }

    int degree() {
        int height = height();
        int sum = 0;
        for (int prime : primes()) {
            for (int[] pair : pairs()) {
                sum += Integer.bitCount(prime) == height && pair[4] == (15 ^ prime) ? 1 : 0;
            }
        }
        return sum;
    }

    int outside(int n) {
        int sum = 0;
        for (int[] m : ofDegree(n)) {
            sum += has(m) ? 0 : 1;
        }
        return sum;
    }

    int steady() {
        long[] f = new long[41];
        for (int n = 0; n <= 40; n++) {
            f[n] = outside(n);
        }
        for (int d = 0; d <= 36; d++) {
            boolean all = true;
            for (int n = d; n <= 36; n++) {
                all &= f[n] - 4 * f[n + 1] + 6 * f[n + 2] - 4 * f[n + 3] + f[n + 4] == 0;
            }
            if (all) {
                return d;
            }
        }
        return -1;
    }

    NaiveIdeal dual(int[] box) {
        List<int[]> raw = new ArrayList<>();
        if (!isWhole()) {
            for (int[] one : ones()) {
                int[] m = new int[4];
                for (int v = 0; v < 4; v++) {
                    m[v] = one[v] > 0 ? box[v] + 1 - one[v] : 0;
                }
                raw.add(m);
            }
        }
        return of(raw);
    }

    /** Counts one by one what is outside; only for ideals that have a power of each variable. */
    int monomialsOutside() {
        int sum = 0;
        for (int[] m : box(tops())) {
            sum += has(m) ? 0 : 1;
        }
        return sum;
    }

    boolean hasEachVariable() {
        int[] tops = tops();
        for (int v = 0; v < 4; v++) {
            int[] m = new int[4];
            m[v] = tops[v];
            if (!has(m)) {
                return false;
            }
        }
        return true;
    }
}
