/** Each sentence of ==== 1. that names a boundary: what is answered at it and on either side of it. */
public final class EdgesOfIdealsTest extends Edges {
    public static void main(String[] args) {
        begin("EdgesOfIdealsTest");
        monomials();
        emptyOrWhole();
        places();
        great();
        many();
        greatAheadOfMany();
        powersOnTheWay();
        quotientsOnTheWay();
        exprsOnTheWay();
        nothingElseOnTheWay();
        signsOfEmptyAndWhole();
        powers();
        checks.finish();
    }

    private static void monomials() {
        by("one DIVIDES another one, if no EXPONENT of it is greater");
        PrimaryParts x = with("(a2b3c4d5)");
        due("itself", true, () -> x.has(0, 2, 3, 4, 5));
        due("a less", false, () -> x.has(0, 1, 3, 4, 5));
        due("b less", false, () -> x.has(0, 2, 2, 4, 5));
        due("c less", false, () -> x.has(0, 2, 3, 3, 5));
        due("d less", false, () -> x.has(0, 2, 3, 4, 4));
        due("all but a far off", false, () -> x.has(0, 1, MAX, MAX, MAX));
        due("all but d far off", false, () -> x.has(0, MAX, MAX, MAX, 4));
        due("all far off", true, () -> x.has(0, MAX, MAX, MAX, MAX));
        by("of like ones by the EXPONENT of a, the greater first, then likewise of b, c, d");
        told("(d2,cd,c2,bd,bc,b2,ad,ac,ab,a2)", "(a2,ab,ac,ad,b2,bc,bd,c2,cd,d2)");
        told("(d12,c11,b10,a9)", "(a9,b10,c11,d12)");
    }

    private static void emptyOrWhole() {
        by("None: the IDEAL is EMPTY; it is WHOLE, if 1 (all EXPONENTS 0) is in it.");
        told("()", "()");
        told("(1)", "(1)");
        told("(a,b,c,d,1)", "(1)");
        told("(1,a12b12c12d12)", "(1)");
        PrimaryParts x = with("()", "(1)", "(a,b,c,d)");
        due("EMPTY has none", false, () -> x.has(0, MAX, MAX, MAX, MAX));
        due("WHOLE has 1", true, () -> x.has(1, 0, 0, 0, 0));
        due("that of all variables hasn't 1", false, () -> x.has(2, 0, 0, 0, 0));
    }

    private static void places() {
        by("There are PLACES 0 to 7, each with an IDEAL, EMPTY at first.");
        for (int place = 0; place < 8; place++) {
            PrimaryParts x = new PrimaryParts();
            int last = place;
            due("tell place " + place, 1, () -> Checks.tell(x, last, "(abcd)"));
            for (int other = 0; other < 8; other++) {
                String want = other == place ? "(abcd)" : "()";
                int k = other;
                due("place " + other + " behind " + place, want, () -> Checks.spoken(x, k));
            }
        }
    }

    private static void great() {
        by("Each EXPONENT of a GENERATOR is 12 at most (else it is GREAT)");
        for (int v = 0; v < 4; v++) {
            String x = LETTERS.substring(v, v + 1);
            String twelve = "(" + x + "12)";
            told(twelve, twelve);
            told("(" + x + "11)*(" + x + ")", twelve);
            refused("(" + x + "12)*(" + x + ")", GREAT);
            told("(" + x + "6)^2", twelve);
            refused("(" + x + "7)^2", GREAT);
            told("(" + x + ")^9*(" + x + ")^3", twelve);
            refused("(" + x + ")^9*(" + x + ")^4", GREAT);
            refused("(" + x + "12)*(" + x + "12)", GREAT);
            refused("(" + x + "12)^9", GREAT);
            makes("(" + x + "11)", "(" + x + ")", 1, twelve);
            makesBy("(" + x + "4)", 6, 3, twelve);
            makesBy("(" + x + "4)", 13, 3, twelve);
            PrimaryParts y = with("(" + x + "12)", "(" + x + ")", "(" + x + "4)");
            due("make a product of " + x + "13", GREAT, () -> y.make(3, 1, 0, 1));
            due("make a power of " + x + "16", GREAT, () -> y.make(3, 6, 2, 4));
            due("make a deep power of " + x + "16", GREAT, () -> y.make(3, 13, 2, 4));
            due("no act", 2, y::undo);
        }
        refused("(a12,b)*(a,b)", GREAT);
        told("(a12c,a2b)*(ab,c)", "(a2bc,a3b2,a12c2)");
        told("(a12b12c12d12)*(1)", "(a12b12c12d12)");
        told("(a12,b12)&(c12,d12)", "(a12c12,a12d12,b12c12,b12d12)");
    }

    /** Row by row: how, i, j as texts (or the number j), and how many GENERATORS it has. */
    private static void many() {
        by("there are at most 60 GENERATORS (else they are MANY)");
        many(0, "(a,b,c)^8+[(a,b,c)^4*(d)]", "(a12)", 60);
        many(0, "(a,b,c)^8+[(a,b,c)^4*(d)]", "(d12)", 61);
        many(1, "(a,b,c,d)^3", "(b4,c4,a4d)", 60);
        many(1, "(a,b,c,d)^3", "(ad2,b4,d4,a3b2)", 61);
        many(2, "(a,b)^9", "(c,d)^5", 60);
        many(2, "(ad4,b4c2,b3c3,c4d2,b4d4,a3b4cd)^3", "(b2d,a5,a4d5)", 61);
        many(3, "(d2,ac2,c2d,a4d,b4c)^3", "(b,d)", 60);
        many(3, "(b2,a2d,a4,ac3,bd3)^3", "(b,c4)", 61);
        many(6, "(a3,a2b,c3,d3,b3c2d)", 4, 60);
        many(6, "(a2,ab,ac,b2,c2)", 5, 61);
        many(7, "(b3,bc2,c3,c2d,ad3)^4", 1, 60);
        many(7, "(c2,d2,a2b,acd,b2c)^4", 2, 61);
        many(12, "(b3,bc2,c3,d3,a2cd2)^4", 0, 60);
        many(12, "(abc,a2d2,b2d2,b2c2d)^6", 0, 61);
        many(13, "(b3,bc2,c3,d3,a2cd2)", 4, 60);
        many(13, "(abc,a2d2,b2d2,b2c2d)", 6, 61);
        manyDual("(c3,abc2,a4d,a2d3,b2d3)^3", 60);
        manyDual("(a3,a2d,b3c,ad4,bc3d3)^3", 61);
    }

    private static NaiveIdeal naive(String text) {
        return NaiveText.read(text, new NaiveIdeal[8]);
    }

    private static void many(int how, String i, String j, int size) {
        NaiveIdeal left = naive(i);
        NaiveIdeal right = naive(j);
        NaiveIdeal[] made = {left.sum(right), left.product(right), left.meet(right), left.quotient(right)};
        due("the model's size of " + how + " " + i, size, () -> made[how].gens.size());
        due("the model's exponents", 0, () -> size > 60 ? made[how].refusal() + 3 : made[how].refusal());
        PrimaryParts x = with(i, j);
        due("make " + how + " of " + i + " and " + j, size > 60 ? MANY : size, () -> x.make(2, how, 0, 1));
        due("acts behind it", size > 60 ? 1 : 2, x::undo);
        String text = "[" + i + "]" + "+*&:".charAt(how) + j;
        if (size > 60) {
            refused(text, MANY);
        } else {
            tells(text, size);
        }
    }

    private static void many(int how, String i, int j, int size) {
        NaiveIdeal ideal = naive(i);
        NaiveIdeal power = ideal;
        for (int k = 1; k < j; k++) {
            power = power.product(ideal);
        }
        NaiveIdeal made = how == 6 ? power : how == 7 ? ideal.part(j) : how == 12 ? ideal.core() : ideal.deepOf(power);
        due("the model's size of " + how + " " + i, size, () -> made.gens.size());
        PrimaryParts x = with(i);
        due("make " + how + " of " + i + " by " + j, size > 60 ? MANY : size, () -> x.make(2, how, 0, j));
        due("place 2 behind it", size > 60 ? 0 : size, () -> x.count(2, 0));
        if (how == 7) {
            due("generators of part " + j, size > 60 ? MANY : size, () -> x.part(0, j, 3));
        }
        due("acts behind it", size > 60 ? 0 : 1, x::undo);
    }

    private static void manyDual(String text, int size) {
        due("the model's dual of " + text, size, () -> naive(text).dual(new int[] {12, 12, 12, 12}).gens.size());
        PrimaryParts x = with(text);
        due("dual of " + text, size > 60 ? MANY : size, () -> x.dual(1, 0, 12, 12, 12, 12));
        due("place 1 behind it", size > 60 ? 0 : size, () -> x.count(1, 0));
        due("acts behind it", size > 60 ? 0 : 1, x::undo);
    }

    private static void greatAheadOfMany() {
        by("(GREAT ahead of MANY)");
        refused("(a7,b7,c7,d7)*(a,b,c,d)^5", MANY);
        refused("(a8,b7,c7,d7)*(a,b,c,d)^5", GREAT);
        refused("(a12,b12,c12,d12)*(a,b,c,d)^5", GREAT);
        PrimaryParts x = with("(a7,b7,c7,d7)", "(a7,b7,c7,d8)", "(a,b,c,d)^5");
        due("make many", MANY, () -> x.make(3, 1, 0, 2));
        due("make great and many", GREAT, () -> x.make(3, 1, 1, 2));
        due("make great and many, the other way round", GREAT, () -> x.make(3, 1, 2, 1));
    }

    private static void powersOnTheWay() {
        by("also on the way: of POWER n POWER 1, 2, .. ahead of it");
        tells("(a2,b2,c2,d2)^5", 56);
        tells("(a3,b3,c3,d3)^4", 35);
        PrimaryParts x = with("(a2,b2,c2,d2)", "(a3,b3,c3,d3)");
        due("power 5", 56, () -> x.make(2, 6, 0, 5));
        due("power 4", 35, () -> x.make(2, 6, 1, 4));
        for (int n = 5; n <= 9; n++) {
            int j = n;
            refused("(a3,b3,c3,d3)^" + n, GREAT);
            due("power 5 is great, with power " + n, GREAT, () -> x.make(2, 6, 1, j));
            due("power 5 is great, with deep power " + n, GREAT, () -> x.make(2, 13, 1, j));
        }
        for (int n = 6; n <= 9; n++) {
            int j = n;
            refused("(a2,b2,c2,d2)^" + n, MANY);
            due("power 6 is many ahead of power " + n, MANY, () -> x.make(2, 6, 0, j));
            due("power 6 is many ahead of deep power " + n, MANY, () -> x.make(2, 13, 0, j));
        }
        due("what was there", 35, () -> x.count(2, 0));
    }

    private static void quotientsOnTheWay() {
        by("of SATURATION each QUOTIENT");
        String i = "(d3,c4,a3b4)^3";
        String step = ":(a,c,d)";
        tells(i + step.repeat(4), 58);
        refused(i + step.repeat(5), MANY);
        refused(i + "!(a,c,d)", MANY);
        tells("[" + i + "!(a)]&[" + i + "!(c)]&[" + i + "!(d)]", 10);
        PrimaryParts x = with(i, "(a,c,d)", "(d2,ac2,c2d,a4d,b4c)^3", "(b,d)");
        due("make with a fifth quotient that is many", MANY, () -> x.make(4, 4, 0, 1));
        due("nothing made", 0, () -> x.count(4, 0));
        due("the first quotient has 60", 60, () -> x.make(4, 3, 2, 3));
        due("the saturation is made then", 10, () -> x.make(4, 4, 2, 3));
    }

    private static void exprsOnTheWay() {
        by("each BASE, each POWER, what comes by each SIGN, in the order in which they stand");
        refused("[" + MANY_ATOM + "]", MANY);
        refused("[" + GREAT_ATOM + "]", GREAT);
        refused("r[" + MANY_ATOM + "]", MANY);
        refused("r[" + GREAT_ATOM + "]", GREAT);
        refused(GREAT_ATOM + "^0", GREAT);
        told("(a7)^0^2", "(1)");
        refused(MANY_ATOM + "^0", MANY);
        refused(GREAT_ATOM + ":(a7)", GREAT);
        refused(MANY_ATOM + ":()", MANY);
        refused("()*" + GREAT_ATOM, GREAT);
        refused("()&" + MANY_ATOM, MANY);
        refused("(1)+" + GREAT_ATOM, GREAT);
        refused("(a12)*(a)+" + MANY_ATOM, GREAT);
        refused("(a,b,c,d)^5*(a,b,c,d)+" + GREAT_ATOM, MANY);
        refused("(a,b,c,d)^5*" + GREAT_ATOM, GREAT);
        refused("(a)+" + MANY_ATOM + "*(a12)*(a)", MANY);
        refused("(a12)*[(a)+" + MANY_ATOM + "]", MANY);
        refused("[(a12)*(a)]*[(a,b,c,d)^5*(a,b,c,d)]", GREAT);
        refused("[(a,b,c,d)^5*(a,b,c,d)]*[(a12)*(a)]", MANY);
        by("(of what is on either side of a SIGN the left first): the first one that is so tells which it is");
        for (char sign : "+*&:!".toCharArray()) {
            refused(MANY_ATOM + sign + GREAT_ATOM, MANY);
            refused(GREAT_ATOM + sign + MANY_ATOM, GREAT);
            refused("(a)" + sign + MANY_ATOM + sign + GREAT_ATOM, MANY);
            refused("(a)" + sign + GREAT_ATOM + sign + MANY_ATOM, GREAT);
        }
    }

    private static void nothingElseOnTheWay() {
        by("(Nothing else is made on the way.)");
        tells("(a2d,ac2,bd2,abcd,d4,a3b4)^3:(a,b,c)", 49);
        PrimaryParts x = with("(a2c,acd,bd2,cd2)^5", "(ab2,abc,ac2,bcd)^5", "(a2c,acd,bd2,cd2)");
        due("core, though some of its parts meet in many", 36, () -> x.make(4, 12, 0, 0));
        due("core, though some of its parts meet in many", 36, () -> x.make(4, 12, 1, 0));
        due("deep power likewise", 36, () -> x.make(4, 13, 2, 5));
        PrimaryParts y = with("(c2,d2,a2b,acd,b2c)^4", "(c2,a2b,acd,b2c)^5", "(a,b,c)^8+[(a,b,c)^4*(d)]", "(d12)");
        due("a part, though another one is many", 15, () -> y.make(4, 7, 0, 0));
        due("another part is many", MANY, () -> y.part(0, 2, 3));
        int[] proof = naive("(c2,a2b,acd,b2c)^5").proof(0);
        for (int v = 0; v < 4; v++) {
            int variable = v;
            due("a proof, though the other parts meet in many", proof[v], () -> y.proof(1, 0, variable));
        }
        due("in the one and not in the other, though they are many together", 1, () -> y.between(3, 2, 12));
        due("all but d12 are in neither or in the other", y.outside(3, 12) - y.outside(2, 12) + 1,
            () -> y.between(2, 3, 12));
    }

    private static void signsOfEmptyAndWhole() {
        String x = "(a2,ab)";
        by("SUM: what is in I or J.");
        signs(0, "()", "(1)", x, "(1)", "(1)", "(1)", x, "(1)", x);
        twelves(0);
        by("PRODUCT: what some MONOMIAL of I times some of J (EXPONENTS together) DIVIDES.");
        signs(1, "()", "()", "()", "()", "(1)", x, "()", x, "(a4,a3b,a2b2)");
        by("MEET: what is in both.");
        signs(2, "()", "()", "()", "()", "(1)", x, "()", x, x);
        twelves(2);
        by("QUOTIENT: the MONOMIALS of which all PRODUCTS with MONOMIALS of J are in I (WHOLE, if J is EMPTY).");
        signs(3, "(1)", "()", "()", "(1)", "(1)", "(1)", "(1)", x, "(1)");
        by("SATURATION: QUOTIENT by J, again and again until it stays.");
        signs(4, "(1)", "()", "()", "(1)", "(1)", "(1)", "(1)", x, "(1)");
        told("(a12)!(a)", "(1)");
        told("(a12b)!(a)", "(b)");
        told("(a12b)!(c)", "(a12b)");
        by("RADICAL: the MONOMIALS of which some POWER is in I.");
        told("r()", "()");
        told("r(1)", "(1)");
        told("r(a12,b11c2)", "(a,bc)");
        told("r[(a2)&(b2)]", "(ab)");
        told("r()&(a)", "()");
        told("(a)&r()+(b)", "(b)");
        for (int v = 0; v < 4; v++) {
            String letter = LETTERS.substring(v, v + 1);
            told("r(" + letter + "12)", "(" + letter + ")");
            told("r(" + letter + ")", "(" + letter + ")");
            makesBy("(" + letter + "2)", 5, 0, "(" + letter + ")");
        }
        makesBy("()", 5, 0, "()");
        makesBy("(1)", 5, 0, "(1)");
        makesBy("(a12,b11c2)", 5, 0, "(a,bc)");
    }

    /** SUM and MEET of two powers, whichever variables they have. */
    private static void twelves(int how) {
        for (int k = 0; k < 16; k++) {
            if (k / 4 == k % 4) {
                continue;
            }
            String x = LETTERS.charAt(k / 4) + "11";
            String y = LETTERS.charAt(k % 4) + "12";
            String both = k / 4 < k % 4 ? x + y : y + x;
            makes("(" + x + ")", "(" + y + ")", how, how == 0 ? "(" + x + "," + y + ")" : "(" + both + ")");
            makes("(" + y + ")", "(" + x + ")", how, how == 0 ? "(" + x + "," + y + ")" : "(" + both + ")");
        }
    }

    /** What EMPTY, WHOLE and (a2,ab) give with each of these, in texts and in calls. */
    private static void signs(int how, String... want) {
        String[] sides = {"()", "(1)", "(a2,ab)"};
        for (int k = 0; k < 9; k++) {
            told(sides[k / 3] + "+*&:!".charAt(how) + sides[k % 3], want[k]);
            makes(sides[k / 3], sides[k % 3], how, want[k]);
        }
    }

    private static void powers() {
        by("POWER n (0 to 9): PRODUCT of n times I (0: WHOLE).");
        for (String x : new String[] {"()", "(1)", "(a)", "(a,b)"}) {
            told(x + "^0", "(1)");
            told(x + "^1", x);
            makesBy(x, 6, 0, "(1)");
            makesBy(x, 6, 1, x);
        }
        told("()^9", "()");
        told("(1)^9", "(1)");
        told("(a)^9", "(a9)");
        makesBy("()", 6, 9, "()");
        makesBy("(1)", 6, 9, "(1)");
        makesBy("(a)", 6, 9, "(a9)");
        faulty("(a)^10", 2, 4);
        Still.due(checks, "POWER 10", -1, x -> x.make(0, 6, 6, 10));
        Still.due(checks, "POWER -1", -1, x -> x.make(0, 6, 6, -1));
    }
}
