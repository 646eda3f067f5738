import java.util.ArrayList;
import java.util.Arrays;
import java.util.HashMap;
import java.util.List;
import java.util.Map;

/**
 * A set of monomials as a plain row of yes and no, one for each monomial of a box 0 to top; an exponent of top stands
 * for all from there on. Neither the program nor NaiveIdeal goes this way: all is done as the document's words say it
 * of sets, never by generators.
 */
final class Crowd {
    interface Rule {
        boolean holds(int[] m);
    }

    private static final Map<Integer, List<int[]>> BOXES = new HashMap<>();

    final int top;
    private final boolean[] in;

    private Crowd(int top) {
        this.top = top;
        in = new boolean[(top + 1) * (top + 1) * (top + 1) * (top + 1)];
    }

    static Crowd by(int top, Rule rule) {
        Crowd made = new Crowd(top);
        for (int[] m : box(top)) {
            made.in[made.index(m)] = rule.holds(m);
        }
        return made;
    }

    static Crowd whole(int top) {
        return by(top, m -> true);
    }

    /** All monomials of the box in ORDER. */
    static List<int[]> box(int top) {
        return BOXES.computeIfAbsent(top, Crowd::findBox);
    }

    private static List<int[]> findBox(int top) {
        List<int[]> all = new ArrayList<>();
        for (int degree = 0; degree <= 4 * top; degree++) {
            for (int[] m : ofDegree(degree)) {
                if (m[0] <= top && m[1] <= top && m[2] <= top && m[3] <= top) {
                    all.add(m);
                }
            }
        }
        return all;
    }

    static List<int[]> ofDegree(int degree) {
        List<int[]> all = new ArrayList<>();
        for (int a = degree; a >= 0; a--) {
            for (int b = degree - a; b >= 0; b--) {
                for (int c = degree - a - b; c >= 0; c--) {
                    all.add(new int[] {a, b, c, degree - a - b - c});
                }
            }
        }
        return all;
    }

    private int index(int[] m) {
        int x = 0;
        for (int v = 0; v < 4; v++) {
            x = x * (top + 1) + Math.min(top, m[v]);
        }
        return x;
    }

    boolean has(int[] m) {
        return in[index(m)];
    }

    boolean isLike(Crowd other) {
        return top == other.top && Arrays.equals(in, other.in);
    }

    boolean isIn(Crowd other) {
        for (int k = 0; k < in.length; k++) {
            if (in[k] && !other.in[k]) {
                return false;
            }
        }
        return true;
    }

    static int[] times(int[] m, int[] n) {
        return new int[] {m[0] + n[0], m[1] + n[1], m[2] + n[2], m[3] + n[3]};
    }

    static boolean divides(int[] m, int[] n) {
        return m[0] <= n[0] && m[1] <= n[1] && m[2] <= n[2] && m[3] <= n[3];
    }

    /** The variables that a monomial has, as bits. */
    static int variablesOf(int[] m) {
        return (m[0] > 0 ? 1 : 0) | (m[1] > 0 ? 2 : 0) | (m[2] > 0 ? 4 : 0) | (m[3] > 0 ? 8 : 0);
    }

    /** Those of the box whose variables are in the set. */
    static List<int[]> inVariables(int top, int set) {
        List<int[]> all = new ArrayList<>();
        for (int[] m : box(top)) {
            if ((variablesOf(m) & ~set) == 0) {
                all.add(m);
            }
        }
        return all;
    }

    /** The monomials in it that no other one in it divides, in ORDER. */
    List<int[]> generators() {
        List<int[]> all = new ArrayList<>();
        for (int[] m : box(top)) {
            boolean divided = false;
            for (int[] n : all) {
                divided |= divides(n, m);
            }
            if (has(m) && !divided) {
                all.add(m);
            }
        }
        return all;
    }

    static Crowd madeBy(int top, List<int[]> some) {
        return by(top, m -> {
            for (int[] n : some) {
                if (divides(n, m)) {
                    return true;
                }
            }
            return false;
        });
    }

    Crowd sum(Crowd j) {
        return by(top, m -> has(m) || j.has(m));
    }

    Crowd meet(Crowd j) {
        return by(top, m -> has(m) && j.has(m));
    }

    /** Of all splits of a monomial in two one must have its one half here and its other one there. */
    Crowd product(Crowd j) {
        List<int[]> those = box(top).stream().filter(this::has).toList();
        return by(top, m -> {
            for (int[] n : those) {
                if (divides(n, m) && j.has(new int[] {m[0] - n[0], m[1] - n[1], m[2] - n[2], m[3] - n[3]})) {
                    return true;
                }
            }
            return false;
        });
    }

    Crowd power(int n) {
        Crowd made = whole(top);
        for (int k = 0; k < n; k++) {
            made = made.product(this);
        }
        return made;
    }

    Crowd quotient(Crowd j) {
        List<int[]> those = box(top).stream().filter(j::has).toList();
        return by(top, m -> {
            for (int[] n : those) {
                if (!has(times(m, n))) {
                    return false;
                }
            }
            return true;
        });
    }

    Crowd saturation(Crowd j) {
        Crowd now = this;
        Crowd next = quotient(j);
        while (!next.isLike(now)) {
            now = next;
            next = now.quotient(j);
        }
        return now;
    }

    Crowd radical() {
        return by(top, m -> {
            int[] power = m;
            for (int k = 0; k <= top; k++) {
                if (has(power)) {
                    return true;
                }
                power = times(power, m);
            }
            return false;
        });
    }

    Crowd seenWithout(int set) {
        List<int[]> free = inVariables(top, set);
        return by(top, m -> {
            for (int[] n : free) {
                if (has(times(m, n))) {
                    return true;
                }
            }
            return false;
        });
    }

    /** Of the text's signs. */
    Crowd combine(char sign, Crowd j) {
        switch (sign) {
            case '+':
                return sum(j);
            case '*':
                return product(j);
            case '&':
                return meet(j);
            case ':':
                return quotient(j);
            default:
                return saturation(j);
        }
    }

    String said() {
        StringBuilder out = new StringBuilder();
        for (int[] m : generators()) {
            out.append(out.length() > 0 ? "," : "").append(told(m));
        }
        return "(" + out + ")";
    }

    static String told(int[] m) {
        StringBuilder out = new StringBuilder();
        for (int v = 0; v < 4; v++) {
            if (m[v] > 0) {
                out.append("abcd".charAt(v)).append(m[v] > 1 ? String.valueOf(m[v]) : "");
            }
        }
        return out.length() == 0 ? "1" : out.toString();
    }
}
