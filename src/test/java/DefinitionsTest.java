import java.util.ArrayList;
import java.util.List;
import java.util.Random;
import java.util.function.Supplier;

/** The document's definitions, quoted, on random small ideals: the face's answers beside sets of monomials. */
public final class DefinitionsTest extends Edges {
    /** One above the greatest exponent of a generator. */
    private static final int TOP = 3;
    private static final String SIGNS = "+*&:!";
    private static final int CALLS = 400;

    private final Random random;

    private DefinitionsTest(long seed) {
        random = new Random(seed);
    }

    public static void main(String[] args) {
        begin("DefinitionsTest");
        long seed = args.length > 0 ? Long.parseLong(args[0]) : 1;
        int times = args.length > 1 ? Integer.parseInt(args[1]) : 1;
        for (int k = 0; k < times; k++) {
            new DefinitionsTest(seed + k).all();
        }
        checks.finish();
    }

    private void all() {
        ideals();
        ofTwo();
        ofOne();
        powers();
        expressions();
        for (String text : texts(24, 2)) {
            irreducibleOnes(text);
            parts(text);
            cores(text);
            witnesses(text);
            proofs(text);
            pairs(text);
            numbers(text);
        }
        for (String text : texts(8, 2)) {
            outside(text);
        }
        betweens();
        duals();
    }

    /** EMPTY, WHOLE, then random ones. */
    private List<String> texts(int many, int greatest) {
        List<String> all = new ArrayList<>(List.of("()", "(1)"));
        while (all.size() < many) {
            all.add(text(greatest));
        }
        return all;
    }

    private String text(int greatest) {
        StringBuilder out = new StringBuilder();
        int size = 1 + random.nextInt(5);
        for (int k = 0; k < size; k++) {
            int[] m = new int[4];
            for (int v = 0; v < 4; v++) {
                m[v] = random.nextInt(2) * random.nextInt(greatest + 1);
            }
            m[random.nextInt(4)] = 1 + random.nextInt(greatest);
            out.append(k > 0 ? "," : "").append(Crowd.told(m));
        }
        return "(" + out + ")";
    }

    /** What has() tells of each monomial of the box, on new objects where one would get too many calls. */
    private static Crowd crowd(int top, int place, Supplier<PrimaryParts> maker) {
        PrimaryParts[] now = {maker.get()};
        int[] calls = {0};
        return Crowd.by(top, m -> {
            if (++calls[0] > CALLS) {
                now[0] = maker.get();
                calls[0] = 1;
            }
            return now[0].has(place, m[0], m[1], m[2], m[3]);
        });
    }

    private static Crowd crowd(String text) {
        return crowd(TOP, 0, () -> with(text));
    }

    private static Crowd made(int top, String i, String j, int how) {
        return crowd(top, 2, () -> {
            PrimaryParts x = with(i, j);
            x.make(2, how, 0, 1);
            return x;
        });
    }

    private static Crowd madeBy(int top, String i, int how, int j) {
        return crowd(top, 2, () -> {
            PrimaryParts x = with(i);
            x.make(2, how, 0, j);
            return x;
        });
    }

    private static void like(String what, Crowd want, Crowd got) {
        checks.same(what, want.said(), got.said());
        checks.same(what + ", as sets", true, want.isLike(got));
    }

    private static int[] generatorOf(PrimaryParts x, int place, int i) {
        return new int[] {x.generator(place, i, 0), x.generator(place, i, 1), x.generator(place, i, 2),
            x.generator(place, i, 3)};
    }

    private void ideals() {
        by("An IDEAL is a set of MONOMIALS that has with each all those that it DIVIDES.");
        for (String text : texts(20, 2)) {
            Crowd crowd = crowd(text);
            like("closed upwards " + text, Crowd.by(TOP, m -> {
                for (int[] n : Crowd.box(TOP)) {
                    if (Crowd.divides(n, m) && crowd.has(n)) {
                        return true;
                    }
                }
                return false;
            }), crowd);
        }
        by("Its GENERATORS are the MONOMIALS in it that no other one in it DIVIDES, numbered in ORDER.");
        by("its GENERATORS in their order as an EXPR tells them, in parentheses, commas between, no blanks;", 23);
        for (String text : texts(20, 2)) {
            Crowd crowd = crowd(text);
            PrimaryParts x = with(text);
            List<int[]> due = crowd.generators();
            checks.same("generators of " + text, due.size(), x.count(0, 0));
            for (int k = 0; k < due.size(); k++) {
                checks.same("generator " + k + " of " + text, Crowd.told(due.get(k)),
                    Crowd.told(generatorOf(x, 0, k)));
            }
            checks.same("said " + text, crowd.said(), Checks.spoken(x, 0));
        }
    }

    private static void by(String sentence, int promise) {
        checks.by(Document.promise(promise), sentence);
    }

    private void ofTwo() {
        String[] sentences = {
            "SUM: what is in I or J.", "PRODUCT: what some MONOMIAL of I times some of J (EXPONENTS together) DIVIDES.",
            "MEET: what is in both.", "QUOTIENT: the MONOMIALS of which all PRODUCTS with MONOMIALS of J are in I"
                + " (WHOLE, if J is EMPTY).", "SATURATION: QUOTIENT by J, again and again until it stays.",
        };
        for (int how = 0; how < sentences.length; how++) {
            by(sentences[how]);
            by("how 0 SUM, 1 PRODUCT, 2 MEET, 3 QUOTIENT, 4 SATURATION;", 5);
            int top = how == 1 ? 2 * TOP - 1 : TOP;
            for (String i : texts(8, 2)) {
                for (String j : texts(4, 2)) {
                    Crowd first = crowd(top, 0, () -> with(i));
                    Crowd second = crowd(top, 0, () -> with(j));
                    like("how " + how + " of " + i + " and " + j, first.combine(SIGNS.charAt(how), second),
                        made(top, i, j, how));
                }
            }
        }
        by("Whether all that is in the IDEAL of PLACE i is in that of PLACE j.", 10);
        for (String i : texts(12, 1)) {
            for (String j : texts(6, 2)) {
                Crowd first = crowd(i);
                Crowd second = crowd(j);
                PrimaryParts x = with(i, j);
                checks.same(i + " within " + j, first.isIn(second), x.within(0, 1));
                checks.same(j + " within " + i, second.isIn(first), x.within(1, 0));
            }
        }
    }

    private void ofOne() {
        by("RADICAL: the MONOMIALS of which some POWER is in I.");
        for (String text : texts(16, 2)) {
            like("radical of " + text, crowd(text).radical(), madeBy(TOP, text, 5, 0));
        }
        by("SEEN without a set of VARIABLES an IDEAL is that of all MONOMIALS of which some PRODUCT with VARIABLES"
            + " of the set is in it.");
        for (String text : texts(6, 2)) {
            for (int set = 0; set < 16; set++) {
                like(text + " seen without " + set, crowd(text).seenWithout(set), madeBy(TOP, text, 10, set));
            }
        }
        by("the IDEAL made by those GENERATORS that have no VARIABLES but the set's", 5);
        for (String text : texts(6, 2)) {
            for (int set = 0; set < 16; set++) {
                int those = set;
                List<int[]> some = crowd(text).generators();
                some.removeIf(m -> (Crowd.variablesOf(m) & ~those) != 0);
                like(text + " of " + set + " alone", Crowd.madeBy(TOP, some), madeBy(TOP, text, 11, set));
            }
        }
    }

    private void powers() {
        for (String text : texts(7, 2)) {
            for (int n = 0; n <= 3; n++) {
                by("POWER n (0 to 9): PRODUCT of n times I (0: WHOLE).");
                int top = Math.max(TOP, 2 * n + 1);
                Crowd power = crowd(top, 0, () -> with(text)).power(n);
                like("power " + n + " of " + text, power, madeBy(top, text, 6, n));
                by("DEEP POWER n (0 to 9): the MEET, over the PRIMES of its MINIMAL PARTS, of POWER n SEEN without all"
                    + " VARIABLES that the PRIME has not (of a WHOLE one, and n 0, WHOLE);");
                Crowd deep = Crowd.whole(top);
                for (int prime : minimalPrimes(onesOf(text))) {
                    deep = deep.meet(power.seenWithout(15 ^ prime));
                }
                like("deep power " + n + " of " + text, deep, madeBy(top, text, 13, n));
            }
        }
    }

    private void expressions() {
        by("EXPR: ATOM (SIGN ATOM)*, from the left on (all SIGNS alike);");
        by("SIGN: '+' SUM, '*' PRODUCT, '&' MEET, ':' QUOTIENT, '!' SATURATION (of what stands ahead by what stands"
            + " behind).");
        for (int first = 0; first < 5; first++) {
            for (int second = 0; second < 5; second++) {
                String i = text(1);
                String j = text(1);
                String k = text(1);
                int top = 4;
                char s = SIGNS.charAt(first);
                char t = SIGNS.charAt(second);
                Crowd x = Crowd.madeBy(top, crowd(i).generators());
                Crowd y = Crowd.madeBy(top, crowd(j).generators());
                Crowd z = Crowd.madeBy(top, crowd(k).generators());
                String plain = i + s + j + t + k;
                like(plain, x.combine(s, y).combine(t, z), crowd(top, 0, () -> with(plain)));
                String bound = i + s + "[" + j + t + k + "]";
                like(bound, x.combine(s, y.combine(t, z)), crowd(top, 0, () -> with(bound)));
                String rooted = "r" + i + s + "r[" + j + t + k + "]";
                like(rooted, x.radical().combine(s, y.combine(t, z).radical()), crowd(top, 0, () -> with(rooted)));
            }
        }
    }

    private static List<int[]> onesOf(String text) {
        PrimaryParts x = with(text);
        List<int[]> all = new ArrayList<>();
        int size = x.count(0, 5);
        for (int i = 0; i < size; i++) {
            all.add(new int[] {x.irreducible(0, i, 0), x.irreducible(0, i, 1), x.irreducible(0, i, 2),
                x.irreducible(0, i, 3), x.irreducible(0, i, NONE)});
        }
        return all;
    }

    private static Crowd irreducible(int[] one) {
        return Crowd.by(TOP, m -> one[0] > 0 && m[0] >= one[0] || one[1] > 0 && m[1] >= one[1]
            || one[2] > 0 && m[2] >= one[2] || one[3] > 0 && m[3] >= one[3]);
    }

    private static Crowd meetOf(List<int[]> ones) {
        Crowd made = Crowd.whole(TOP);
        for (int[] one : ones) {
            made = made.meet(irreducible(one));
        }
        return made;
    }

    private static List<Integer> primesOf(List<int[]> ones) {
        List<Integer> all = new ArrayList<>();
        for (int bits = 0; bits <= 4; bits++) {
            for (int prime = 0; prime < 16; prime++) {
                for (int[] one : ones) {
                    if (Integer.bitCount(prime) == bits && Crowd.variablesOf(one) == prime && !all.contains(prime)) {
                        all.add(prime);
                    }
                }
            }
        }
        return all;
    }

    private static boolean isEmbedded(List<Integer> primes, int prime) {
        for (int other : primes) {
            if (other != prime && (other & ~prime) == 0) {
                return true;
            }
        }
        return false;
    }

    private static List<Integer> minimalPrimes(List<int[]> ones) {
        List<Integer> all = primesOf(ones);
        List<Integer> minimal = new ArrayList<>(all);
        minimal.removeIf(prime -> isEmbedded(all, prime));
        return minimal;
    }

    private static List<int[]> madeOf(List<int[]> ones, int prime) {
        List<int[]> some = new ArrayList<>(ones);
        some.removeIf(one -> Crowd.variablesOf(one) != prime);
        return some;
    }

    private static void irreducibleOnes(String text) {
        by("The IRREDUCIBLE ONES of an IDEAL, neither EMPTY nor WHOLE: the fewest of which it is the MEET"
            + " (there is one such set).");
        List<int[]> ones = onesOf(text);
        Crowd crowd = crowd(text);
        like("meet of the irreducible ones of " + text, crowd, meetOf(ones));
        for (int k = 0; k < ones.size(); k++) {
            List<int[]> others = new ArrayList<>(ones);
            others.remove(k);
            checks.same("irreducible one " + k + " of " + text + " is needed", false, meetOf(others).isLike(crowd));
            int i = k;
            like("irreducible one " + k + " of " + text, irreducible(ones.get(k)), madeBy(TOP, text, 8, i));
        }
        by("IRREDUCIBLE ONES by their PARTS, then by EXPONENTS of a, the lesser first, then of b, c, d.");
        List<Integer> primes = primesOf(ones);
        for (int k = 0; k < ones.size(); k++) {
            int[] one = ones.get(k);
            checks.same("part of irreducible one " + k + " of " + text, primes.indexOf(Crowd.variablesOf(one)), one[4]);
            checks.same("irreducible one " + k + " of " + text + " stands right", true,
                k == 0 || rank(ones.get(k - 1)) < rank(one));
        }
    }

    private static int rank(int[] one) {
        return (((one[4] * 16 + one[0]) * 16 + one[1]) * 16 + one[2]) * 16 + one[3];
    }

    private static void parts(String text) {
        by("PARTS: for each PRIME the MEET of all IRREDUCIBLE ONES that are made of just these.");
        List<int[]> ones = onesOf(text);
        List<Integer> primes = primesOf(ones);
        PrimaryParts x = with(text);
        checks.same("parts of " + text, primes.size(), x.count(0, 3));
        int embedded = 0;
        for (int p = 0; p < primes.size(); p++) {
            int prime = primes.get(p);
            String what = " of part " + p + " of " + text;
            Crowd part = meetOf(madeOf(ones, prime));
            like("part" + what, part, madeBy(TOP, text, 7, p));
            like("prime" + what, Crowd.by(TOP, m -> (Crowd.variablesOf(m) & prime) != 0), madeBy(TOP, text, 9, p));
            checks.same("prime" + what, prime, x.part(0, p, 0));
            checks.same("embedded" + what, isEmbedded(primes, prime) ? 1 : 0, x.part(0, p, 1));
            checks.same("irreducible ones" + what, madeOf(ones, prime).size(), x.part(0, p, 2));
            checks.same("generators" + what, part.generators().size(), x.part(0, p, 3));
            embedded += isEmbedded(primes, prime) ? 1 : 0;
        }
        checks.same("embedded parts of " + text, embedded, x.count(0, 4));
        checks.same("primary " + text, primes.size() == 1 ? 1 : 0, x.count(0, 9));
        checks.same("irreducible " + text, ones.size() == 1 ? 1 : 0, x.count(0, 10));
    }

    private static void cores(String text) {
        by("CORE: the MEET of its MINIMAL PARTS (WHOLE of a WHOLE one).");
        List<int[]> ones = onesOf(text);
        Crowd core = Crowd.whole(TOP);
        for (int prime : minimalPrimes(ones)) {
            core = core.meet(meetOf(madeOf(ones, prime)));
        }
        like("core of " + text, core, madeBy(TOP, text, 12, 0));
    }

    private static void witnesses(String text) {
        by("WITNESS of a PART: the first MONOMIAL in ORDER by which the QUOTIENT (by the IDEAL made by it alone) is the"
            + " IDEAL made by the VARIABLES of its PRIME.");
        Crowd crowd = crowd(text);
        List<Integer> primes = primesOf(onesOf(text));
        PrimaryParts x = with(text);
        for (int p = 0; p < primes.size(); p++) {
            int prime = primes.get(p);
            Crowd due = Crowd.by(TOP, m -> (Crowd.variablesOf(m) & prime) != 0);
            String first = "none";
            for (int[] m : Crowd.box(TOP)) {
                if (first.equals("none") && Crowd.by(TOP, n -> crowd.has(Crowd.times(m, n))).isLike(due)) {
                    first = Crowd.told(m);
                }
            }
            checks.same("witness of part " + p + " of " + text, first, Crowd.told(new int[] {
                x.witness(0, p, 0), x.witness(0, p, 1), x.witness(0, p, 2), x.witness(0, p, 3)}));
        }
    }

    private static void proofs(String text) {
        by("PROOF of a PART: the first MONOMIAL in ORDER that is in all other PARTS and not in the IDEAL.");
        Crowd crowd = crowd(text);
        List<int[]> ones = onesOf(text);
        List<Integer> primes = primesOf(ones);
        PrimaryParts x = with(text);
        for (int p = 0; p < primes.size(); p++) {
            Crowd others = Crowd.whole(TOP);
            for (int q = 0; q < primes.size(); q++) {
                others = q == p ? others : others.meet(meetOf(madeOf(ones, primes.get(q))));
            }
            String first = "none";
            for (int[] m : Crowd.box(TOP)) {
                if (first.equals("none") && others.has(m) && !crowd.has(m)) {
                    first = Crowd.told(m);
                }
            }
            checks.same("proof of part " + p + " of " + text, first, Crowd.told(new int[] {
                x.proof(0, p, 0), x.proof(0, p, 1), x.proof(0, p, 2), x.proof(0, p, 3)}));
        }
    }

    /** What a monomial and variables of a set make, as a set. */
    private static Crowd productsOf(int[] m, int set) {
        return Crowd.by(TOP, n -> {
            boolean fits = true;
            for (int v = 0; v < 4; v++) {
                fits &= (set >> v & 1) != 0 ? n[v] >= m[v] : n[v] == m[v];
            }
            return fits;
        });
    }

    private static void pairs(String text) {
        by("PAIRS: a MONOMIAL m and a set S of VARIABLES, m having none of them, so that no product of m and VARIABLES"
            + " of S is in the IDEAL; and there is no other such two, m' and S', so that each of those products is one"
            + " of m' and VARIABLES of S'.");
        by("They are numbered by S as bits, then by m in ORDER.");
        Crowd crowd = crowd(text);
        List<String> told = new ArrayList<>();
        List<Crowd> products = new ArrayList<>();
        for (int set = 0; set < 16; set++) {
            for (int[] m : Crowd.inVariables(TOP, 15 ^ set)) {
                Crowd those = productsOf(m, set);
                if (those.meet(crowd).generators().isEmpty()) {
                    told.add(Crowd.told(m) + " " + set);
                    products.add(those);
                }
            }
        }
        List<String> due = new ArrayList<>();
        for (int k = 0; k < products.size(); k++) {
            boolean greatest = true;
            for (int n = 0; n < products.size() && greatest; n++) {
                greatest = n == k || !products.get(k).isIn(products.get(n));
            }
            if (greatest) {
                due.add(told.get(k));
            }
        }
        comparePairs(text, due);
    }

    private static void comparePairs(String text, List<String> due) {
        PrimaryParts x = with(text);
        checks.same("pairs of " + text, due.size(), x.count(0, 6));
        for (int k = 0; k < due.size() && k < 80; k++) {
            int[] m = {x.pair(0, k, 0), x.pair(0, k, 1), x.pair(0, k, 2), x.pair(0, k, 3)};
            checks.same("pair " + k + " of " + text, due.get(k), Crowd.told(m) + " " + x.pair(0, k, NONE));
        }
        PrimaryParts y = with(text);
        by("PAIRS of a PART: those whose S is all VARIABLES but its PRIME's.");
        List<Integer> primes = primesOf(onesOf(text));
        int height = primes.isEmpty() ? 4 : Integer.bitCount(primes.get(0));
        int degree = 0;
        for (int p = 0; p < primes.size(); p++) {
            String set = " " + (15 ^ primes.get(p));
            int many = 0;
            for (String pair : due) {
                many += pair.endsWith(set) ? 1 : 0;
            }
            checks.same("pairs of part " + p + " of " + text, many, y.part(0, p, 4));
            degree += Integer.bitCount(primes.get(p)) == height ? many : 0;
        }
        by("HEIGHT: the fewest VARIABLES of a PRIME (WHOLE: 4). DEGREE: how many PAIRS there are of PARTS whose PRIMES"
            + " have so few (WHOLE: 0).");
        checks.same("height of " + text, height, y.count(0, 1));
        checks.same("degree of " + text, degree, y.count(0, 2));
    }

    private static void numbers(String text) {
        by("7 how many MONOMIALS aren't in it (NONE: no end), 8 whether it is its own RADICAL", 7);
        Crowd crowd = crowd(text);
        int many = 0;
        boolean ends = true;
        for (int[] m : Crowd.box(TOP)) {
            if (!crowd.has(m)) {
                many++;
                ends &= m[0] < TOP && m[1] < TOP && m[2] < TOP && m[3] < TOP;
            }
        }
        PrimaryParts x = with(text);
        checks.same("monomials not in " + text, ends ? many : NONE, x.count(0, 7));
        checks.same("own radical " + text, crowd.isLike(crowd.radical()) ? 1 : 0, x.count(0, 8));
        int greatest = NONE;
        for (int[] m : crowd.generators()) {
            greatest = m[0] + m[1] + m[2] + m[3];
        }
        checks.same("greatest degree of " + text, greatest, x.count(0, 11));
    }

    private static void outside(String text) {
        by("OUTSIDE of a DEGREE: how many MONOMIALS of it aren't in the IDEAL.");
        Crowd crowd = crowd(text);
        PrimaryParts x = with(text);
        int[] row = new int[41];
        for (int degree = 0; degree <= 40; degree++) {
            List<int[]> all = Crowd.ofDegree(degree);
            all.removeIf(crowd::has);
            row[degree] = all.size();
            checks.same("outside " + text + " of degree " + degree, all.size(), x.outside(0, degree));
            for (int k = 0; k < 2; k++) {
                int i = k * (all.size() - 1);
                int variable = (degree + k) % 4;
                checks.same("outer " + i + " of " + text + " of degree " + degree,
                    i >= 0 && i < all.size() ? all.get(i)[variable] : NONE, x.outer(0, degree, i, variable));
            }
        }
        by("STEADY: the least DEGREE d of 0 to 36 from which on the fourth differences of OUTSIDE are 0: for each n of"
            + " d to 36 that of n, less 4 times that of n and 1, 6 times that of n and 2, less 4 times that of n and 3,"
            + " that of n and 4 is 0 together; NONE: none.");
        int steady = NONE;
        for (int n = 36; n >= 0; n--) {
            if (row[n] - 4 * row[n + 1] + 6 * row[n + 2] - 4 * row[n + 3] + row[n + 4] != 0) {
                break;
            }
            steady = n;
        }
        checks.same("steady of " + text, steady, x.steady(0));
    }

    private void betweens() {
        by("How many MONOMIALS of a DEGREE (0 to 40) are in the IDEAL of PLACE i and not in that of PLACE j.", 18);
        for (String i : texts(6, 2)) {
            for (String j : texts(6, 2)) {
                Crowd first = crowd(i);
                Crowd second = crowd(j);
                PrimaryParts x = with(i, j);
                for (int degree = 0; degree <= 12; degree++) {
                    List<int[]> all = Crowd.ofDegree(degree);
                    all.removeIf(m -> !first.has(m) || second.has(m));
                    checks.same("in " + i + ", not in " + j + ", degree " + degree, all.size(),
                        x.between(0, 1, degree));
                }
            }
        }
    }

    private void duals() {
        by("what is made by, for each IRREDUCIBLE ONE, the MONOMIAL that has for each of its VARIABLES the box's"
            + " EXPONENT and 1, less that of the IRREDUCIBLE ONE, else 0 (of EMPTY: WHOLE, of WHOLE: EMPTY).");
        for (String text : texts(20, 2)) {
            int[] box = {2 + random.nextInt(3), 2 + random.nextInt(3), 2 + random.nextInt(3), 2 + random.nextInt(3)};
            List<int[]> some = new ArrayList<>();
            for (int[] one : onesOf(text)) {
                int[] m = new int[4];
                for (int v = 0; v < 4; v++) {
                    m[v] = one[v] > 0 ? box[v] + 1 - one[v] : 0;
                }
                some.add(m);
            }
            int top = 5;
            like("dual of " + text, Crowd.madeBy(top, some), crowd(top, 1, () -> {
                PrimaryParts x = with(text);
                x.dual(1, 0, box[0], box[1], box[2], box[3]);
                return x;
            }));
        }
    }
}
