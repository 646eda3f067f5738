import java.util.ArrayList;
import java.util.List;
import java.util.function.IntUnaryOperator;

/** Each sentence of ==== 3. that names a boundary: what is answered at it and on either side of it. */
public final class EdgesOfPartsTest extends Edges {
    public static void main(String[] args) {
        begin("EdgesOfPartsTest");
        parts();
        embedded();
        seen();
        cores();
        deepPowers();
        acts();
        actsAround();
        steady();
        witnessesAndProofs();
        embeddedOfEachTwo();
        pairs();
        heights();
        outside();
        duals();
        checks.finish();
    }

    private static void counts(String text, int... want) {
        PrimaryParts x = with(text);
        for (int k = 0; k < want.length; k += 2) {
            int what = want[k];
            due("count " + what + " of " + text, want[k + 1], () -> x.count(0, what));
        }
    }

    private static void part(String text, int part, int... want) {
        PrimaryParts x = with(text);
        for (int k = 0; k < want.length; k++) {
            int what = k;
            due("part " + part + " of " + text + ": " + k, want[k], () -> x.part(0, part, what));
        }
    }

    private static void parts() {
        by("An EMPTY one has one PART: EMPTY, with PRIME 0 (MINIMAL; one IRREDUCIBLE ONE of no VARIABLES);"
            + " a WHOLE one has none.");
        counts("()", 3, 1, 4, 0, 5, 1, 9, 1, 10, 1);
        part("()", 0, 0, 0, 1, 0, 1);
        makesBy("()", 7, 0, "()");
        makesBy("()", 8, 0, "()");
        makesBy("()", 9, 0, "()");
        counts("(1)", 3, 0, 4, 0, 5, 0, 9, 0, 10, 0);
        PrimaryParts x = with("(1)", "()");
        checks.noSuch("a part of WHOLE", () -> x.part(0, 0, 0));
        checks.noSuch("an irreducible one of WHOLE", () -> x.irreducible(0, 0, 0));
        checks.noSuch("a second part of EMPTY", () -> x.part(1, 1, 0));
        checks.noSuch("a second irreducible one of EMPTY", () -> x.irreducible(1, 1, 0));
        for (int how = 7; how <= 9; how++) {
            int h = how;
            due("make " + how + " of WHOLE", -1, () -> x.make(2, h, 0, 0));
            due("make " + how + " of EMPTY by 1", -1, () -> x.make(2, h, 1, 1));
        }
        due("no acts", 1, x::undo);
        by("They are numbered by how many VARIABLES their PRIME has, then by it as bits");
        PrimaryParts y = with("(a)&(b)&(c)&(d)", "(ab,ac,ad,bc,bd,cd)&(d)", "(a,b,c)&(a,b,d)&(a,c,d)&(b,c,d)",
            "(ab,cd)&(ad,bc)");
        primes(y, 0, 1, 2, 4, 8);
        primes(y, 1, 8, 7);
        primes(y, 2, 7, 11, 13, 14);
        primes(y, 3, 3, 5, 6, 9, 10, 12);
    }

    private static void primes(PrimaryParts x, int place, int... want) {
        due("parts of place " + place, want.length, () -> x.count(place, 3));
        for (int p = 0; p < want.length; p++) {
            int part = p;
            due("prime " + p + " of place " + place, want[p], () -> x.part(place, part, 0));
        }
    }

    private static void embedded() {
        by("A PART is EMBEDDED, if its PRIME holds another PRIME (all its VARIABLES); else MINIMAL.");
        part("(a)&(a2,b)", 0, 1, 0);
        part("(a)&(a2,b)", 1, 3, 1);
        part("(a)&(b,c)", 1, 6, 0);
        part("(a,b)&(b,c)", 0, 3, 0);
        part("(a,b)&(b,c)", 1, 6, 0);
        part("(a,b)&(b,c)&(a2,b2,c2)", 2, 7, 1);
        part("(d)&(a,b,c)", 1, 7, 0);
        part("(d)&(a2,b2,c2,d2)", 1, 15, 1);
        counts("(a)&(a2,b)&(a3,b2,c)&(a4,b3,c2,d)", 3, 4, 4, 3);
        counts("(a12)", 3, 1, 4, 0);
    }

    private static void seen() {
        by("SEEN without a set of VARIABLES an IDEAL is that of all MONOMIALS of which some PRODUCT with VARIABLES of"
            + " the set is in it.");
        for (String x : new String[] {"()", "(1)", "(a2,ab)", "(a12b12c12d12)"}) {
            makesBy(x, 10, 0, x);
            makesBy(x, 10, 15, x.equals("()") ? "()" : "(1)");
        }
        makesBy("(a2,ab)", 10, 1, "(1)");
        makesBy("(a2,ab)", 10, 2, "(a)");
        makesBy("(a12b12c12d12)", 10, 7, "(d12)");
    }

    private static void cores() {
        by("CORE: the MEET of its MINIMAL PARTS (WHOLE of a WHOLE one).");
        makesBy("(1)", 12, 0, "(1)");
        makesBy("()", 12, 0, "()");
        makesBy("(a12)", 12, 0, "(a12)");
        makesBy("(a)&(a2,b)", 12, 0, "(a)");
        makesBy("(a)&(b,c)", 12, 0, "(ab,ac)");
    }

    private static void deepPowers() {
        by("DEEP POWER n (0 to 9): the MEET, over the PRIMES of its MINIMAL PARTS, of POWER n SEEN without all"
            + " VARIABLES that the PRIME has not (of a WHOLE one, and n 0, WHOLE)");
        for (String x : new String[] {"()", "(1)", "(a)", "(a2,ab)"}) {
            makesBy(x, 13, 0, "(1)");
        }
        for (int n = 1; n <= 9; n++) {
            makesBy("(1)", 13, n, "(1)");
            makesBy("()", 13, n, "()");
            makesBy("(ab)", 13, n, n == 1 ? "(ab)" : "(a" + n + "b" + n + ")");
        }
        for (int n = 1; n <= 6; n++) {
            makesBy("(a)&(a2,b)", 13, n, n == 1 ? "(a)" : "(a" + n + ")");
        }
        makesBy("(ab,bc,ac)", 13, 1, "(ab,ac,bc)");
        makesBy("(ab,bc,ac)", 13, 2, "(abc,a2b2,a2c2,b2c2)");
        Still.due(checks, "DEEP POWER -1", -1, x -> x.make(0, 13, 6, -1));
        Still.due(checks, "DEEP POWER 10", -1, x -> x.make(0, 13, 6, 10));
        Still.due(checks, "DEEP POWER 10 of WHOLE", -1, x -> x.make(0, 13, 3, 10));
        by("on the way POWERS 1 to n alone are made");
        makesBy("(a2,ab,ac,ad)", 13, 5, "(a5)");
        PrimaryParts few = with("(a2,ab,ac,ad)", "(a7,a6b)");
        due("a deep power of few, POWER 6 being many", MANY, () -> few.make(2, 13, 0, 6));
        due("a deep power of few, POWER 2 being great", GREAT, () -> few.make(2, 13, 1, 2));
        due("it isn't great itself", "(a6)", () -> {
            few.make(2, 12, 1, 0);
            return Checks.spoken(few, 2);
        });
        due("no act by what was refused", 2, few::undo);
        Still.due(checks, "POWER 6 is many", MANY, x -> x.make(0, 13, 6, 6));
        Still.due(checks, "POWER 2 is great", GREAT, x -> x.make(0, 13, 2, 2));
        deepAsTold();
    }

    /** By the document's words themselves: powers, what is SEEN of them, and meets, made by calls. */
    private static void deepAsTold() {
        String[] texts = {
            "(ab,bc,ac)", "(a2,ab)", "(ab,cd)", "(a2,b)&(b2,c)&(c2,d)", "(a)&(a2,b)&(a3,b2,c)",
            "(abc,a2d2)", "(a,b)&(c,d)", "(ab,ac,ad,bc,bd,cd)",
        };
        for (String text : texts) {
            for (int n = 1; n <= 5; n++) {
                PrimaryParts x = with(text);
                int power = n;
                if (x.make(1, 6, 0, power) < 0) {
                    due("no deep power " + n + " of " + text, x.make(1, 6, 0, power), () -> x.make(2, 13, 0, power));
                    continue;
                }
                Checks.tell(x, 2, "(1)");
                for (int p = 0; p < x.count(0, 3); p++) {
                    if (x.part(0, p, 1) == 0) {
                        x.make(3, 10, 1, 15 ^ x.part(0, p, 0));
                        x.make(2, 2, 2, 3);
                    }
                }
                due("deep power " + n + " of " + text, x.count(2, 0), () -> x.make(4, 13, 0, power));
                due("it is that", true, () -> x.within(2, 4) && x.within(4, 2));
            }
        }
    }

    private static void acts() {
        by("the latest 20 can be UNDONE one by one, the latest first");
        for (int many : new int[] {0, 1, 2, 19, 20, 21, 39, 40, 41, 45}) {
            PrimaryParts x = new PrimaryParts();
            for (int k = 0; k < many; k++) {
                Checks.tell(x, 0, "(a" + (1 + k % 12) + "b" + (1 + k / 12) + ")");
            }
            int first = Math.max(0, many - 20);
            for (int k = many - 1; k >= first; k--) {
                int left = k - first;
                due("undo act " + k + " of " + many, left, x::undo);
                int last = k - 1;
                due("exponent of a ahead of act " + k, last < 0 ? "none" : 1 + last % 12,
                    () -> last < 0 ? "none" : x.generator(0, 0, 0));
                due("exponent of b ahead of act " + k, last < 0 ? 0 : 1, () -> x.count(0, 0));
            }
            due("no more of " + many, -1, x::undo);
            due("no more of " + many + ", again", -1, x::undo);
            due("the first of " + many + " stay", many > 20 ? 1 : 0, () -> x.count(0, 0));
        }
        by("ACTS: tell(), make(), dual() by which a PLACE gets an IDEAL (also the one that it has), back() that is"
            + " true");
        PrimaryParts x = new PrimaryParts();
        due("tell of what it has", 0, () -> Checks.tell(x, 0, "()"));
        due("make of what it has", 0, () -> x.make(0, 0, 0, 0));
        due("dual", 1, () -> x.dual(1, 0, 0, 0, 0, 0));
        due("dual of what it has", 1, () -> x.dual(1, 0, 0, 0, 0, 0));
        due("back that is false", false, x::back);
        due("image is no act", 1, x::image);
        due("back", true, x::back);
        due("back to what there is", true, x::back);
        for (int left = 5; left >= 0; left--) {
            due("undo, then left", left, x::undo);
        }
        due("none", -1, x::undo);
    }

    /** Acts and undone ones in turn, far more than twenty, beside a row of texts. */
    private static void actsAround() {
        by("all PLACES are as they were ahead of it (nothing else is other)");
        PrimaryParts x = new PrimaryParts();
        List<String> past = new ArrayList<>();
        String now = "()";
        int[] turns = {3, -2, 18, -1, 4, -20, 7, -3, 20, -21, 25, -10, 10, -20, -1};
        int act = 0;
        for (int turn : turns) {
            for (int k = 0; k < Math.abs(turn); k++) {
                if (turn > 0) {
                    past.add(now);
                    now = "(a" + (2 + act % 11) + ")";
                    String text = now;
                    act++;
                    due("act " + act, 1, () -> Checks.tell(x, 3, text));
                } else if (past.isEmpty()) {
                    due("none behind act " + act, -1, x::undo);
                } else {
                    now = past.remove(past.size() - 1);
                    due("undo behind act " + act, past.size(), x::undo);
                }
                while (past.size() > 20) {
                    past.remove(0);
                }
                String want = now;
                due("place 3 behind act " + act, want.length(), () -> x.say(3));
            }
            String want = now;
            due("place 3 behind act " + act, want, () -> Checks.spoken(x, 3));
        }
        PrimaryParts y = Still.full();
        due("an act more", 1, () -> y.make(4, 9, 2, 0));
        due("undone", 16, y::undo);
        due("the fault stays", Still.FAULT, y::fault);
        due("what is said stays", (int) 'b', () -> y.said(3));
        due("the tape stays", Still.TAPED + 20, () -> y.feed(0, 0, 0, 0, 0));
        due("what is kept stays", true, y::back);
        due("what is kept stays", "(c4)", () -> Checks.spoken(y, 3));
    }

    private static void steady() {
        by("STEADY: the least DEGREE d of 0 to 36 from which on the fourth differences of OUTSIDE are 0");
        String[] texts = {
            "()", "(1)", "(a)", "(a3)", "(a4)", "(a5)", "(a12)", "(a12b12c12)", "(a12b12c12d)", "(a12b12c12d2)",
            "(a12b12c12d3)",
        };
        int[] due = {0, 0, 0, 0, 1, 2, 9, 33, 34, 35, 36};
        for (int k = 0; k < texts.length; k++) {
            PrimaryParts x = with(texts[k]);
            due("steady " + texts[k], due[k], () -> x.steady(0));
        }
        by("NONE: none.");
        PrimaryParts x = with("(a12b12c12d4)", "(a12b12c12d5)", "(a12b12c12d12)", "(a12b12c12d4,a12b12c12d4)");
        due("degree 40 comes in at the last moment", -1, () -> x.steady(0));
        due("degree 41 isn't seen", 0, () -> x.steady(1));
        due("degree 48 isn't seen", 0, () -> x.steady(2));
        due("none again", -1, () -> x.steady(3));
    }

    private static void witnessesAndProofs() {
        by("WITNESS of a PART: the first MONOMIAL in ORDER by which the QUOTIENT (by the IDEAL made by it alone) is the"
            + " IDEAL made by the VARIABLES of its PRIME.");
        PrimaryParts x = with("()", "(a,b,c,d)", "(a12,b12,c12,d12)", "(a12b12c12d12)");
        for (int v = 0; v < 4; v++) {
            int variable = v;
            due("witness of EMPTY", 0, () -> x.witness(0, 0, variable));
            due("witness of all variables", 0, () -> x.witness(1, 0, variable));
            due("the farthest witness", 11, () -> x.witness(2, 0, variable));
            due("proof of EMPTY", 0, () -> x.proof(0, 0, variable));
            due("proof of all variables", 0, () -> x.proof(1, 0, variable));
            due("proof of one part", 0, () -> x.proof(2, 0, variable));
            for (int p = 0; p < 4; p++) {
                int part = p;
                due("witness of a power of " + p, p == v ? 11 : 12, () -> x.witness(3, part, variable));
                due("proof of a power of " + p, p == v ? 0 : 12, () -> x.proof(3, part, variable));
            }
        }
        by("PROOF of a PART: the first MONOMIAL in ORDER that is in all other PARTS and not in the IDEAL.");
        PrimaryParts y = with("(a)&(a3,b)", "(ab)");
        due("proof of a minimal part", 1, () -> y.proof(0, 0, 1));
        due("proof of a minimal part", 0, () -> y.proof(0, 0, 0));
        due("proof of an embedded part", 1, () -> y.proof(0, 1, 0));
        due("proof of an embedded part", 0, () -> y.proof(0, 1, 1));
        due("witness of an embedded part", 2, () -> y.witness(0, 1, 0));
        due("proof of (a)", 1, () -> y.proof(1, 0, 1));
        due("proof of (b)", 1, () -> y.proof(1, 1, 0));
    }

    /** The same ideal, of a MINIMAL PART (x) and an EMBEDDED one (x3,y), whichever variables x and y are. */
    private static void embeddedOfEachTwo() {
        by("those that an IRREDUCIBLE ONE is made of");
        for (int k = 0; k < 16; k++) {
            int x = k / 4;
            int y = k % 4;
            if (x == y) {
                continue;
            }
            int both = 1 << x | 1 << y;
            String first = LETTERS.substring(x, x + 1);
            String text = "(" + first + "3," + first + LETTERS.charAt(y) + ")";
            part(text, 0, 1 << x, 0, 1, 1, 1);
            part(text, 1, both, 1, 1, 2, 2);
            PrimaryParts z = with(text);
            monomial("witness 0 of " + text, v -> z.witness(0, 0, v), y, 1);
            monomial("witness 1 of " + text, v -> z.witness(0, 1, v), x, 2);
            monomial("proof 0 of " + text, v -> z.proof(0, 0, v), y, 1);
            monomial("proof 1 of " + text, v -> z.proof(0, 1, v), x, 1);
            monomial("irreducible 0 of " + text, v -> z.irreducible(0, 0, v), x, 1);
            due("irreducible 1 of " + text, 3, () -> z.irreducible(0, 1, x));
            due("irreducible 1 of " + text, 1, () -> z.irreducible(0, 1, y));
            due("pairs of " + text, 3, () -> z.count(0, 6));
            monomial("pair 0 of " + text, v -> z.pair(0, 0, v), x, 1);
            monomial("pair 1 of " + text, v -> z.pair(0, 1, v), x, 2);
            monomial("pair 2 of " + text, v -> z.pair(0, 2, v), x, 0);
            due("set 0 of " + text, 15 ^ both, () -> z.pair(0, 0, -1));
            due("set 2 of " + text, 15 ^ 1 << x, () -> z.pair(0, 2, -1));
            makesBy(text, 12, 0, "(" + first + ")");
            makesBy(text, 10, 1 << y, "(" + first + ")");
        }
    }

    /** A power of one variable alone. */
    private static void monomial(String what, IntUnaryOperator exponent, int variable, int power) {
        for (int v = 0; v < 4; v++) {
            int each = v;
            due(what + ", variable " + v, v == variable ? power : 0, () -> exponent.applyAsInt(each));
        }
    }

    private static void pair(PrimaryParts x, int place, int i, int... want) {
        for (int v = -1; v < 4; v++) {
            int variable = v;
            due("pair " + i + " of place " + place + ": " + v, want[v + 1], () -> x.pair(place, i, variable));
        }
    }

    private static void pairs() {
        by("They are numbered by S as bits, then by m in ORDER.");
        PrimaryParts x = with("()", "(1)", "(a,b,c,d)", "(a12,b12,c12,d12)", "(a12b12c12d12)");
        pair(x, 0, 0, 15, 0, 0, 0, 0);
        pair(x, 2, 0, 0, 0, 0, 0, 0);
        pair(x, 3, 0, 0, 0, 0, 0, 0);
        pair(x, 3, 1, 0, 1, 0, 0, 0);
        pair(x, 3, 4, 0, 0, 0, 0, 1);
        pair(x, 3, 20735, 0, 11, 11, 11, 11);
        pair(x, 3, 20734, 0, 10, 11, 11, 11);
        pair(x, 4, 0, 7, 0, 0, 0, 0);
        pair(x, 4, 11, 7, 0, 0, 0, 11);
        pair(x, 4, 12, 11, 0, 0, 0, 0);
        pair(x, 4, 47, 14, 11, 0, 0, 0);
        counts("()", 6, 1);
        counts("(1)", 6, 0);
        counts("(a12,b12,c12,d12)", 6, 20736);
        counts("(a12b12c12d12)", 6, 48);
        checks.noSuch("a pair of WHOLE", () -> x.pair(1, 0, -1));
        checks.noSuch("a second pair of EMPTY", () -> x.pair(0, 1, -1));
        checks.noSuch("one pair too far", () -> x.pair(3, 20736, -1));
        by("PAIRS of a PART: those whose S is all VARIABLES but its PRIME's.");
        part("()", 0, 0, 0, 1, 0, 1);
        part("(a12b12c12d12)", 3, 8, 0, 1, 1, 12);
        part("(a12,b12,c12,d12)", 0, 15, 0, 1, 4, 20736);
    }

    private static void heights() {
        by("HEIGHT: the fewest VARIABLES of a PRIME (WHOLE: 4).");
        counts("()", 1, 0);
        counts("(1)", 1, 4);
        counts("(a,b,c,d)", 1, 4);
        counts("(a)&(a2,b2,c2,d2)", 1, 1);
        counts("(a,b,c)&(a2,b2,c2,d2)", 1, 3);
        by("DEGREE: how many PAIRS there are of PARTS whose PRIMES have so few (WHOLE: 0).");
        counts("()", 2, 1);
        counts("(1)", 2, 0);
        counts("(a,b,c,d)", 2, 1);
        counts("(a12,b12,c12,d12)", 2, 20736);
        counts("(a12)&(b12,c12)", 2, 12);
        counts("(a12b12)&(c,d)", 2, 24);
    }

    private static void outside() {
        by("OUTSIDE of a DEGREE: how many MONOMIALS of it aren't in the IDEAL.");
        PrimaryParts x = with("()", "(1)", "(a12b12c12d4)", "(a12b12c12d5)", "(a,b,c,d)");
        due("EMPTY, 0", 1, () -> x.outside(0, 0));
        due("EMPTY, 40", 12341, () -> x.outside(0, 40));
        due("WHOLE, 0", 0, () -> x.outside(1, 0));
        due("WHOLE, 40", 0, () -> x.outside(1, 40));
        due("one of DEGREE 40", 12340, () -> x.outside(2, 40));
        due("one of DEGREE 40, 39", 11480, () -> x.outside(2, 39));
        due("one of DEGREE 41", 12341, () -> x.outside(3, 40));
        due("1 alone, 0", 1, () -> x.outside(4, 0));
        due("1 alone, 1", 0, () -> x.outside(4, 1));
    }

    private static void duals() {
        by("(of EMPTY: WHOLE, of WHOLE: EMPTY)");
        dual("()", 0, 0, 0, 0, "(1)");
        dual("(1)", 0, 0, 0, 0, "()");
        dual("()", 12, 12, 12, 12, "(1)");
        dual("(1)", 12, 12, 12, 12, "()");
        dual("()", 0, 12, 0, 12, "(1)");
        dual("(1)", 0, 12, 0, 12, "()");
        by("DUAL of an IDEAL in a box (EXPONENTS 0 to 12 each; each GENERATOR DIVIDES the box's MONOMIAL)");
        dual("()", -1, 0, 0, 0, "NONE");
        dual("()", 0, 13, 0, 0, "NONE");
        dual("()", 0, 0, -1, 0, "NONE");
        dual("()", 0, 0, 0, 13, "NONE");
        dual("(a2b3c4d5)", 2, 3, 4, 5, "(a,b,c,d)");
        dual("(a2b3c4d5)", 1, 3, 4, 5, "NONE");
        dual("(a2b3c4d5)", 2, 2, 4, 5, "NONE");
        dual("(a2b3c4d5)", 2, 3, 3, 5, "NONE");
        dual("(a2b3c4d5)", 2, 3, 4, 4, "NONE");
        dual("(a2b3c4d5)", 3, 3, 4, 5, "(b,c,d,a2)");
        dual("(a12b12c12d12)", 12, 12, 12, 12, "(a,b,c,d)");
        dual("(a,b,c,d)", 12, 12, 12, 12, "(a12b12c12d12)");
        dual("(a,b,c,d)", 1, 1, 1, 1, "(abcd)");
        dual("(a,b,c,d)", 1, 1, 1, 0, "NONE");
        dual("(a,b,c,d)", 1, 2, 3, 12, "(ab2c3d12)");
        dual("(a,b,c,d)", 12, 1, 2, 3, "(a12bc2d3)");
        dual("(a,b,c,d)", 3, 12, 1, 2, "(a3b12cd2)");
        dual("(a,b,c,d)", 2, 3, 12, 1, "(a2b3c12d)");
        dual("(ab,cd)", 1, 2, 3, 4, "(ac3,ad4,b2c3,b2d4)");
    }
}
