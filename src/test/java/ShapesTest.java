import java.util.ArrayList;
import java.util.List;
import java.util.Random;

/** Ideals at the limits of the document, each asked everything, beside the naive model. */
public final class ShapesTest {
    private static final int MOST_CALLS = 512;
    /** Sixty generators, each asked for four exponents, and how many there are. */
    private static final int TO_COMPARE = 241;

    private final Checks checks;
    private PrimaryParts x = new PrimaryParts();
    private int calls;
    private final String[] told = {"()", "()"};
    private final NaiveParts y = new NaiveParts();
    private final String name;

    private ShapesTest(Checks checks, String name) {
        this.checks = checks;
        this.name = name;
    }

    public static void main(String[] args) {
        Checks checks = new Checks("ShapesTest");
        String[] texts = {
            "()", "(1)", "(a)", "(d)", "(a12)", "(d12)", "(a12b12c12d12)", "(a,b,c,d)", "(a12,b12,c12,d12)",
            "(a2,ab)", "(ab,cd)", "(ab,bc,cd,ad)", "(a12,b12)&(c12,d12)", "(a,b)&(c,d)&(a2,b2,c2,d2)",
            "(a,b,c,d)^5", "(a,b,c)^9", "(a,b)^9&(c,d)^3", "(a3b,b3c,c3d,d3a,abcd)", "(a12,a11b,a10b2)&(c12,d12)",
            "(a,b2,c3,d4)*(a4,b3,c2,d)", "(a12b,b12c,c12d,d12a)", "(a6b6,c6d6,a6c6,b6d6,a12,d12)",
            "(a)&(a2,b)&(a3,b2,c)&(a4,b3,c2,d)", "(abcd)^9", "(ab,ac,ad,bc,bd,cd)", "(a2,b2,c2,d2)^2",
            "[(a,b)*(b,c)]^3:(a2)", "(a3,b3)!(a,c)", "r(a3b2,c12)", "(a,b)^2&(b,c)^2&(c,d)^2&(d,a)^2",
        };
        for (String text : texts) {
            new ShapesTest(checks, text).all(text);
        }
        Random random = new Random(5);
        for (int k = 0; k < 24; k++) {
            int greatest = k % 3 == 0 ? 12 : k % 3 == 1 ? 5 : 3;
            String text = thick(random, greatest, 8 + random.nextInt(17));
            new ShapesTest(checks, text).all(text);
        }
        refusals(checks);
        checks.finish();
    }

    /** As many monomials of one degree as may be, so that most are generators. */
    private static String thick(Random random, int greatest, int size) {
        StringBuilder out = new StringBuilder("(");
        for (int k = 0; k < size && out.length() < 180; k++) {
            int[] m = new int[4];
            for (int step = 0; step < 2 * greatest; step++) {
                int v = random.nextInt(4);
                m[v] += m[v] < greatest ? 1 : 0;
            }
            out.append(k > 0 ? "," : "");
            for (int v = 0; v < 4; v++) {
                out.append(m[v] > 0 ? "abcd".substring(v, v + 1) + m[v] : "");
            }
        }
        return out.append(")").toString();
    }

    /** An object is good for so many calls: where some more don't fit, a new one goes on with the same ideals. */
    private void ready(int more) {
        if (calls + more > MOST_CALLS) {
            x = new PrimaryParts();
            calls = 0;
            for (int place = 0; place < told.length; place++) {
                feed(told[place]);
                x.tell(place, told[place].length());
                calls++;
            }
        }
    }

    private void feed(String text) {
        Checks.feed(x, text);
        calls += Checks.packed(text).length / 5;
    }

    private void both(String what, Checks.Call first, Checks.Call second) {
        ready(1);
        calls++;
        checks.same(name + ": " + what, Checks.answerOf(second), Checks.answerOf(first));
    }

    private void tellBoth(int place, String text) {
        int[] row = Checks.packed(text);
        ready(row.length / 5 + 1);
        feed(text);
        for (int k = 0; k < row.length; k += 5) {
            y.feed(row[k], row[k + 1], row[k + 2], row[k + 3], row[k + 4]);
        }
        told[place] = text;
        both("tell", () -> x.tell(place, text.length()), () -> y.tell(place, text.length()));
    }

    private void all(String text) {
        tellBoth(0, text);
        String spoken = spoken();
        ready(1 + spoken.length());
        checks.same(name + ": said", spoken, Checks.spoken(x, 0));
        calls += 1 + spoken.length();
        for (int k = 0; k < 12; k++) {
            int what = k;
            both("count " + k, () -> x.count(0, what), () -> y.count(0, what));
        }
        both("steady", () -> x.steady(0), () -> y.steady(0));
        int parts = y.count(0, 3);
        for (int k = 0; k <= parts; k++) {
            askPart(k);
        }
        askOnes(y.count(0, 5));
        askPairs(y.count(0, 6));
        for (int n = 0; n <= 40; n += 3) {
            int degree = n;
            both("outside " + n, () -> x.outside(0, degree), () -> y.outside(0, degree));
        }
        makeAll(parts);
    }

    private String spoken() {
        int size = y.say(0);
        StringBuilder out = new StringBuilder();
        for (int k = 0; k < size; k++) {
            out.append((char) y.said(k));
        }
        return out.toString();
    }

    private void askPart(int part) {
        for (int k = 0; k < 5; k++) {
            int what = k;
            both("part " + part + " " + k, () -> x.part(0, part, what), () -> y.part(0, part, what));
        }
        for (int k = 0; k < 4; k++) {
            int v = k;
            both("witness " + part + " " + k, () -> x.witness(0, part, v), () -> y.witness(0, part, v));
            both("proof " + part + " " + k, () -> x.proof(0, part, v), () -> y.proof(0, part, v));
        }
    }

    private void askOnes(int size) {
        for (int k = 0; k <= size; k++) {
            for (int v = -1; v < 4; v++) {
                int i = k;
                int variable = v;
                both("irreducible " + k + " " + v,
                    () -> x.irreducible(0, i, variable), () -> y.irreducible(0, i, variable));
            }
        }
    }

    /** All of a few, else some from each stretch and the end. */
    private void askPairs(int size) {
        List<Integer> asked = new ArrayList<>();
        for (int k = 0; k <= size; k += size < 300 ? 1 : size / 200 + 1) {
            asked.add(k);
        }
        asked.add(size - 1);
        asked.add(size);
        for (int i : asked) {
            for (int v = -1; v < 4; v++) {
                int variable = v;
                both("pair " + i + " " + v, () -> x.pair(0, i, variable), () -> y.pair(0, i, variable));
            }
        }
    }

    private void makeAll(int parts) {
        for (int how = 5; how <= 13; how++) {
            for (int j = 0; j <= 15; j += how == 5 || how == 12 ? 16 : 1) {
                makeBoth(how, j);
            }
        }
        tellBoth(1, "(a2b,c3,bd2)");
        for (int how = 0; how <= 4; how++) {
            int h = how;
            made("make " + h + " by 1", () -> x.make(2, h, 0, 1), () -> y.make(2, h, 0, 1));
            made("make " + h + " of 1", () -> x.make(2, h, 1, 0), () -> y.make(2, h, 1, 0));
            made("make " + h + " by itself", () -> x.make(2, h, 0, 0), () -> y.make(2, h, 0, 0));
        }
        ready(1 + 2 * (1 + TO_COMPARE));
        wholeAtTwo();
        both("dual", () -> x.dual(2, 0, 12, 12, 12, 12), () -> y.dual(2, 0, 12, 12, 12, 12));
        same(2);
        both("dual twice", () -> x.dual(2, 2, 12, 12, 12, 12), () -> y.dual(2, 2, 12, 12, 12, 12));
        same(2);
        for (int n = 0; n <= 40; n += 5) {
            int degree = n;
            both("between " + n, () -> x.between(0, 1, degree), () -> y.between(0, 1, degree));
            both("between back " + n, () -> x.between(1, 0, degree), () -> y.between(1, 0, degree));
        }
    }

    private void makeBoth(int how, int j) {
        made("make " + how + " " + j, () -> x.make(2, how, 0, j), () -> y.make(2, how, 0, j));
    }

    private void made(String what, Checks.Call first, Checks.Call second) {
        ready(2 + TO_COMPARE);
        wholeAtTwo();
        both(what, first, second);
        same(2);
    }

    /** A call that is refused must leave place 2 alone, so both need the same ideal there ahead of it. */
    private void wholeAtTwo() {
        both("power 0", () -> x.make(2, 6, 3, 0), () -> y.make(2, 6, 3, 0));
    }

    /** The ideals themselves are the same, generator by generator. */
    private void same(int place) {
        NaiveIdeal due = y.ideal(place);
        checks.same(name + ": generators", due.gens.size(), x.count(place, 0));
        calls += 1 + 4 * due.gens.size();
        for (int i = 0; i < due.gens.size(); i++) {
            for (int v = 0; v < 4; v++) {
                int k = i;
                int variable = v;
                checks.due(name + ": generator " + i, due.gens.get(i)[v], () -> x.generator(place, k, variable));
            }
        }
    }

    /** Which refusal comes first, on the way too. */
    private static void refusals(Checks checks) {
        String[] texts = {
            "(a12)*(a)", "(a7)^2", "(a,b,c,d)^6", "(a,b,c,d)^9", "(a2,b2,c2,d2)^9", "(a12,b)^2", "[(a7)^2]:(a7)",
            "(1)+(a7)^2", "(a,b,c,d)^6*(a7)^2", "(a7)^2*(a,b,c,d)^6", "r[(a7)^2]", "(a,b,c,d)^5^2", "(a2)^6", "(a2)^7",
            "(a4)^3^1", "(a4)^3^2", "(a4)^3^0", "(a7)^2^0", "(a12)^1", "(1)^9^9^9", "()^9", "()^0",
            "(a12,b12,c12,d12)*(a,b,c,d)", "(a,b,c,d)^4*(a,b,c,d)", "(a,b,c,d)^5:(a)", "(a,b,c,d)^5+(a13)",
            "(a,b,c,d)^5&(a12)", "(a,b,c,d)^5&(a,b,c,d)^4", "(a,b)^9+(c,d)^9", "(a,b)^9&(c,d)^9", "(a,b)^9*(c,d)^4",
            "(a,b)^9*(c,d)^5", "(a,b)^9&(c,d)^5", "(a,b,c)^9", "(a,b,c)^8", "(a,b,c)^9+(d)", "(a,b,c)^9*(d)",
            "(a12b,b12)*(1)", "(a6,b6)^2", "(a6,b6)^3", "(a,b6)^3", "(a,b,c,d)^9:(a,b,c,d)^9", "r(a,b,c,d)^6",
            "[(a,b,c,d)^5]*[(a7)*(a6)]", "[(a7)*(a6)]*[(a,b,c,d)^5]", "(a,b,c,d)^5*(a,b,c,d)*(a7)^2",
        };
        for (String text : texts) {
            ShapesTest both = new ShapesTest(checks, text);
            both.tellBoth(0, "(c2)");
            both.tellBoth(0, text);
            both.both("fault", both.x::fault, both.y::fault);
            both.both("undo", both.x::undo, both.y::undo);
            both.same(0);
        }
    }
}
