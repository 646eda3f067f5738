import java.util.ArrayDeque;
import java.util.ArrayList;
import java.util.Deque;
import java.util.List;
import java.util.NoSuchElementException;

/** The document's face over NaiveIdeal: what PrimaryParts is compared with. */
final class NaiveParts {
    private NaiveIdeal[] places = new NaiveIdeal[8];
    private NaiveIdeal[] kept;
    private final Deque<NaiveIdeal[]> past = new ArrayDeque<>();
    private final StringBuilder tape = new StringBuilder();
    private String said = "";
    private int fault = -1;

    NaiveParts() {
        for (int k = 0; k < 8; k++) {
            places[k] = NaiveIdeal.of(new ArrayList<>());
        }
    }

    /** For tests that want to know an ideal itself. */
    NaiveIdeal ideal(int place) {
        if (place < 0 || place > 7) {
            throw new NoSuchElementException();
        }
        return places[place];
    }

    private void act(NaiveIdeal[] then) {
        past.addLast(places);
        if (past.size() > 20) {
            past.removeFirst();
        }
        places = then;
    }

    private int put(int place, NaiveIdeal ideal) {
        NaiveIdeal[] then = places.clone();
        then[place] = ideal;
        act(then);
        return ideal.gens.size();
    }

    int feed(int... five) {
        if (tape.length() + 20 > 200) {
            return -1;
        }
        for (int number : five) {
            for (int k = 3; k >= 0; k--) {
                tape.append((char) (number >>> 8 * k & 255));
            }
        }
        return tape.length();
    }

    int tell(int place, int n) {
        if (place < 0 || place > 7 || n < 0 || n > tape.length()) {
            throw new IllegalArgumentException();
        }
        String text = tape.substring(0, n);
        tape.setLength(0);
        fault = -1;
        try {
            return put(place, NaiveText.read(text, places));
        } catch (NaiveText.Fault e) {
            fault = e.place;
            return -10 - e.kind;
        } catch (NaiveText.Refused e) {
            return e.why;
        }
    }

    int fault() {
        return fault;
    }

    private static boolean isPlace(int place) {
        return place >= 0 && place <= 7;
    }

    int make(int place, int how, int i, int j) {
        if (!isPlace(place) || !isPlace(i) || how < 0 || how > 13 || how < 5 && !isPlace(j)) {
            return -1;
        }
        NaiveIdeal x = places[i];
        boolean fits = true;
        if (how == 6 || how == 13) {
            fits = j >= 0 && j <= 9;
        } else if (how == 7 || how == 9) {
            fits = j >= 0 && j < parts(x);
        } else if (how == 8) {
            fits = j >= 0 && j < ones(x).size();
        } else if (how == 10 || how == 11) {
            fits = j >= 0 && j <= 15;
        }
        if (!fits) {
            return -1;
        }
        try {
            return put(place, NaiveText.sound(how < 5
                ? NaiveText.combine("+*&:!".charAt(how), x, places[j]) : derived(how, x, j)));
        } catch (NaiveText.Refused e) {
            return e.why;
        }
    }

    private NaiveIdeal derived(int how, NaiveIdeal x, int j) {
        switch (how) {
            case 5:
                return x.radical();
            case 6:
                return NaiveText.power(x, j);
            case 7:
                return x.part(j);
            case 8:
                return NaiveIdeal.irreducible(ones(x).get(j));
            case 9:
                return NaiveIdeal.prime(x.primes().get(j));
            case 10:
                return x.seenWithout(j);
            case 11:
                return x.only(j);
            case 12:
                return x.isWhole() ? x : x.core();
            default:
                return x.isWhole() || j == 0 ? NaiveIdeal.whole() : x.deepOf(NaiveText.power(x, j));
        }
    }

    private static List<int[]> ones(NaiveIdeal x) {
        return x.ones();
    }

    private static int parts(NaiveIdeal x) {
        return x.primes().size();
    }

    int dual(int place, int i, int a, int b, int c, int d) {
        int[] box = {a, b, c, d};
        if (!isPlace(place) || !isPlace(i)) {
            return -1;
        }
        for (int side : box) {
            if (side < 0 || side > 12) {
                return -1;
            }
        }
        for (int[] g : places[i].gens) {
            if (!NaiveIdeal.divides(g, box)) {
                return -1;
            }
        }
        NaiveIdeal made = places[i].dual(box);
        return made.refusal() != 0 ? made.refusal() : put(place, made);
    }

    int count(int place, int what) {
        NaiveIdeal x = ideal(place);
        switch (what) {
            case 0:
                return x.gens.size();
            case 1:
                return x.height();
            case 2:
                return x.degree();
            case 3:
                return parts(x);
            case 4:
                int embedded = 0;
                for (int p = 0; p < parts(x); p++) {
                    embedded += x.isEmbedded(p) ? 1 : 0;
                }
                return embedded;
            case 5:
                return ones(x).size();
            case 6:
                return x.pairs().size();
            case 7:
                return x.hasEachVariable() ? x.monomialsOutside() : -1;
            case 8:
                return x.like(x.radical()) ? 1 : 0;
            case 9:
                return parts(x) == 1 ? 1 : 0;
            case 10:
                return ones(x).size() == 1 ? 1 : 0;
            case 11:
                int most = -1;
                for (int[] g : x.gens) {
                    most = Math.max(most, NaiveIdeal.degree(g));
                }
                return most;
            default:
                throw new NoSuchElementException();
        }
    }

    private static void among(int i, int least, int end) {
        if (i < least || i >= end) {
            throw new NoSuchElementException();
        }
    }

    private static void mind(int degree) {
        if (degree < 0 || degree > 40) {
            throw new IllegalArgumentException();
        }
    }

    int generator(int place, int i, int variable) {
        NaiveIdeal x = ideal(place);
        among(i, 0, x.gens.size());
        among(variable, 0, 4);
        return x.gens.get(i)[variable];
    }

    boolean has(int place, int a, int b, int c, int d) {
        NaiveIdeal x = ideal(place);
        if (a < 0 || b < 0 || c < 0 || d < 0) {
            throw new IllegalArgumentException();
        }
        return x.has(new int[] {a, b, c, d});
    }

    boolean within(int i, int j) {
        return ideal(i).isIn(ideal(j));
    }

    int part(int place, int part, int what) {
        NaiveIdeal x = ideal(place);
        among(part, 0, parts(x));
        among(what, 0, 5);
        int prime = x.primes().get(part);
        int sum = 0;
        switch (what) {
            case 0:
                return prime;
            case 1:
                return x.isEmbedded(part) ? 1 : 0;
            case 2:
                for (int[] one : ones(x)) {
                    sum += NaiveIdeal.primeOf(one) == prime ? 1 : 0;
                }
                return sum;
            case 3:
                return x.part(part).refusal() != 0 ? x.part(part).refusal() : x.part(part).gens.size();
            default:
                for (int[] pair : x.pairs()) {
                    sum += pair[4] == (15 ^ prime) ? 1 : 0;
                }
                return sum;
        }
    }

    int witness(int place, int part, int variable) {
        NaiveIdeal x = ideal(place);
        among(part, 0, parts(x));
        among(variable, 0, 4);
        return x.witness(part)[variable];
    }

    int proof(int place, int part, int variable) {
        NaiveIdeal x = ideal(place);
        among(part, 0, parts(x));
        among(variable, 0, 4);
        return x.proof(part)[variable];
    }

    int irreducible(int place, int i, int variable) {
        NaiveIdeal x = ideal(place);
        among(i, 0, ones(x).size());
        among(variable, -1, 4);
        int[] one = ones(x).get(i);
        return variable == -1 ? x.primes().indexOf(NaiveIdeal.primeOf(one)) : one[variable];
    }

    int pair(int place, int i, int variable) {
        NaiveIdeal x = ideal(place);
        among(i, 0, Integer.MAX_VALUE);
        among(variable, -1, 4);
        List<int[]> pairs = x.pairs();
        among(i, 0, pairs.size());
        return pairs.get(i)[variable == -1 ? 4 : variable];
    }

    int outside(int place, int degree) {
        NaiveIdeal x = ideal(place);
        mind(degree);
        return x.outside(degree);
    }

    int outer(int place, int degree, int i, int variable) {
        NaiveIdeal x = ideal(place);
        among(variable, 0, 4);
        mind(degree);
        int left = i;
        for (int[] m : NaiveIdeal.ofDegree(degree)) {
            if (!x.has(m)) {
                if (left == 0) {
                    return m[variable];
                }
                left--;
            }
        }
        return -1;
    }

    int between(int i, int j, int degree) {
        NaiveIdeal x = ideal(i);
        NaiveIdeal y = ideal(j);
        mind(degree);
        int sum = 0;
        for (int[] m : NaiveIdeal.ofDegree(degree)) {
            sum += x.has(m) && !y.has(m) ? 1 : 0;
        }
        return sum;
    }

    int steady(int place) {
        return ideal(place).steady();
    }

    int undo() {
        if (past.isEmpty()) {
            return -1;
        }
        places = past.removeLast();
        return past.size();
    }

    int image() {
        kept = places;
        int filled = 0;
        for (NaiveIdeal x : places) {
            filled += x.isEmpty() ? 0 : 1;
        }
        return filled;
    }

    boolean back() {
        if (kept == null) {
            return false;
        }
        act(kept);
        return true;
    }

    int say(int place) {
        NaiveIdeal x = ideal(place);
        StringBuilder out = new StringBuilder("(");
        for (int[] g : x.gens) {
            if (out.length() > 1) {
                out.append(',');
            }
            if (NaiveIdeal.degree(g) == 0) {
                out.append('1');
            }
            for (int v = 0; v < 4; v++) {
                if (g[v] > 0) {
                    out.append("abcd".charAt(v));
                }
                if (g[v] > 1) {
                    out.append(g[v]);
                }
            }
        }
        said = out.append(')').toString();
        return said.length();
    }

    int said(int i) {
        return i >= 0 && i < said.length() ? said.charAt(i) : -1;
    }
}
