import java.util.function.Function;

/**
 * Each sentence of a promise that names a boundary: what the call answers at it and on either side of it, and, where
 * the call is refused, that nothing else has changed.
 */
public final class EdgesOfCallsTest extends Edges {
    private static final String NO_SUCH = "throws.NoSuchElementException";
    private static final String ILLEGAL = "throws.IllegalArgumentException";
    private static final int[] NO_PLACES = {-1, 8, MIN, MAX};
    private static final int[] NO_VARIABLES = {-1, 4, MIN, MAX};
    private static final int[] NO_VARIABLES_NOR_NONE = {-2, 4, MIN, MAX};
    private static final int[] NO_DEGREES = {-1, 41, MIN, MAX};
    private static final int[] NO_EXPONENTS = {-1, 13, MIN, MAX};

    public static void main(String[] args) {
        begin("EdgesOfCallsTest");
        promise1();
        promise2();
        promise3();
        promise4();
        promise5();
        promise5Places();
        promise5Numbers();
        promise5AheadOf();
        promise6();
        promise7();
        promise8();
        promise9();
        promise10();
        promise11();
        promise12And13();
        promise14();
        promise15();
        promise16();
        promise17();
        promise18();
        promise19();
        promise20();
        promise21();
        promise22();
        promise23();
        promise24();
        allCalls();
        for (int number = 1; number <= 24; number++) {
            String heading = Document.promise(number);
            checks.same(heading + " has a test", true, Document.isQuoted(heading));
        }
        checks.finish();
    }

    private static void by(int promise, String sentence) {
        checks.by(Document.promise(promise), sentence);
    }

    /** The answer of a call on Still.full(), which must leave it as it is. */
    private static void still(String what, Object want, Function<PrimaryParts, Object> call) {
        Still.due(checks, what, want, call);
    }

    private static void promise1() {
        by(1, "All PLACES are EMPTY.");
        PrimaryParts x = new PrimaryParts();
        for (int k = 0; k < 8; k++) {
            int place = k;
            due("generators of place " + k, 0, () -> x.count(place, 0));
            due("place " + k + " has nothing", false, () -> x.has(place, MAX, MAX, MAX, MAX));
            due("place " + k + " lies within place 0", true, () -> x.within(place, 0));
            due("outside place " + k, 12341, () -> x.outside(place, 40));
        }
        due("how many aren't EMPTY", 0, x::image);
        due("nothing to undo", NONE, x::undo);
        PrimaryParts y = with("(a)", "(1)");
        due("a new one beside one that is used", 0, () -> new PrimaryParts().count(0, 0));
        due("that one", 1, () -> y.count(0, 0));
    }

    private static void promise2() {
        by(2, "Twenty bytes come behind the tape, of each number the highest first: how many it has");
        PrimaryParts x = new PrimaryParts();
        due("least and greatest", 20, () -> x.feed(MIN, MAX, -1, 0, 1));
        due("byte 128 can't stand there", -11, () -> x.tell(0, 20));
        due("its place", 0, x::fault);
        due("the tape is empty behind tell()", 20,
            () -> x.feed(0x28613129, 0x2b286232, 0x292a2863, 0x332c6431, 0x32292020));
        due("five numbers in their order", 4, () -> x.tell(0, 18));
        due("five numbers in their order", "(ac3,b2c3,ad12,b2d12)", () -> Checks.spoken(x, 0));
        by(2, "NONE, and none come, if it would have more than 200.");
        PrimaryParts y = new PrimaryParts();
        int[] row = Checks.packed("(a)" + " ".repeat(195) + "^2");
        for (int k = 0; k < 10; k++) {
            int at = 5 * k;
            due("feed " + (k + 1), 20 * (k + 1),
                () -> y.feed(row[at], row[at + 1], row[at + 2], row[at + 3], row[at + 4]));
        }
        due("feed 11", NONE, () -> y.feed(0x2b286229, 0x20202020, 0x20202020, 0x20202020, 0x20202020));
        due("feed 12", NONE, () -> y.feed(MIN, MIN, MIN, MIN, MIN));
        due("feed 13", NONE, () -> y.feed(MAX, MAX, MAX, MAX, MAX));
        due("not one has come", ILLEGAL, () -> y.tell(0, 201));
        due("the 200 are as they were", 1, () -> y.tell(0, 200));
        due("the 200 are as they were", "(a2)", () -> Checks.spoken(y, 0));
        due("empty again", 20, () -> y.feed(0, 0, 0, 0, 0));
    }

    private static void promise3() {
        by(3, "The tape's first n bytes (it is empty then, whatever comes of it) are an EXPR");
        String[] texts = {"(a)", "(a", "(a7)^2", "(a,b,c,d)^6"};
        int[] want = {1, -11, GREAT, MANY};
        for (int k = 0; k < texts.length; k++) {
            PrimaryParts x = new PrimaryParts();
            Checks.feed(x, texts[k]);
            int n = texts[k].length();
            int answer = want[k];
            due("tell the first of 20 bytes: " + texts[k], answer, () -> x.tell(0, n));
            due("the rest is gone", ILLEGAL, () -> x.tell(0, 1));
            due("none are left", -11, () -> x.tell(0, 0));
            due("none are left", 0, x::fault);
            due("the next come first", 20, () -> x.feed(0, 0, 0, 0, 0));
        }
        PrimaryParts none = new PrimaryParts();
        Checks.feed(none, "(a)");
        due("no bytes of some", -11, () -> none.tell(0, 0));
        due("they are gone too", ILLEGAL, () -> none.tell(0, 3));
        by(3, "-2: GREAT, -3: MANY, -10 less the FAULT (these change nothing else).");
        Still.told(checks, "(a12)*(a)", GREAT, NONE);
        Still.told(checks, "(a,b,c,d)^5*(a,b)", MANY, NONE);
        Still.told(checks, "(a", -11, 2);
        Still.told(checks, "(a13)", -12, 2);
        Still.told(checks, "(aa)", -13, 2);
        Still.told(checks, "rrrrrrr(a)", -14, 6);
        by(3, "IllegalArgumentException (ahead of all, and nothing changes): no such PLACE, the tape has not so many,"
            + " n below 0.");
        for (int bad : NO_PLACES) {
            still("place " + bad, ILLEGAL, x -> x.tell(bad, 11));
            still("place " + bad + ", a FAULT", ILLEGAL, x -> x.tell(bad, 2));
            still("place " + bad + ", no bytes", ILLEGAL, x -> x.tell(bad, 0));
        }
        for (int bad : new int[] {-1, Still.TAPED + 1, MIN, MAX}) {
            still("n " + bad, ILLEGAL, x -> x.tell(0, bad));
            still("n " + bad + ", no such place", ILLEGAL, x -> x.tell(8, bad));
        }
        due("n as many as there are", 3, () -> Still.full().tell(0, Still.TAPED));
        due("place 0", 3, () -> Still.full().tell(0, 11));
        due("place 7", 3, () -> Still.full().tell(7, 11));
    }

    private static void promise4() {
        by(4, "The place of the latest tell()'s FAULT (that was no IllegalArgumentException); NONE: it had none, or"
            + " there was none.");
        PrimaryParts x = new PrimaryParts();
        due("there was no tell()", NONE, x::fault);
        due("a tell() that throws is none", ILLEGAL, () -> x.tell(8, 0));
        due("so there was none", NONE, x::fault);
        due("a FAULT at its first byte", -11, () -> Checks.tell(x, 0, "a"));
        due("0 is a place", 0, x::fault);
        due("a tell() that throws", ILLEGAL, () -> x.tell(0, 1));
        due("leaves it", 0, x::fault);
        due("a FAULT at the end of 200 bytes", -11, () -> Checks.tell(x, 0, "(a)" + " ".repeat(196) + "+"));
        due("its place", 200, x::fault);
        due("a tell() that throws", ILLEGAL, () -> x.tell(MIN, MIN));
        due("leaves it", 200, x::fault);
        due("other calls", 0, () -> x.make(0, 0, 0, 0));
        due("leave it", 200, x::fault);
        due("GREAT", GREAT, () -> Checks.tell(x, 0, "(a7)^2"));
        due("has none", NONE, x::fault);
        due("a FAULT", -12, () -> Checks.tell(x, 0, "#8"));
        due("its place", 1, x::fault);
        due("MANY", MANY, () -> Checks.tell(x, 0, "(a,b,c,d)^6"));
        due("has none", NONE, x::fault);
        due("a FAULT", -13, () -> Checks.tell(x, 0, "(aa)"));
        due("its place", 2, x::fault);
        due("an IDEAL", 0, () -> Checks.tell(x, 0, "()"));
        due("has none", NONE, x::fault);
    }

    private static void promise5() {
        by(5, "of the IDEALS of PLACES i and j (these may be the same ones)");
        for (int place = 0; place < 8; place++) {
            PrimaryParts x = new PrimaryParts();
            int p = place;
            Checks.tell(x, p, "(a,b)");
            due("itself twice, place " + place, 3, () -> x.make(p, 1, p, p));
            due("made there", "(a2,ab,b2)", () -> Checks.spoken(x, p));
            due("itself first", 3, () -> x.make(p, 0, p, (p + 1) % 8));
            due("itself second", 0, () -> x.make(p, 2, (p + 1) % 8, p));
            due("acts", 3, x::undo);
        }
        by(5, "of that of i alone: 5 RADICAL");
        for (int j : new int[] {MIN, -1, 0, 7, 8, 15, 16, MAX}) {
            PrimaryParts x = with("(a2,ab)");
            due("RADICAL with j " + j, 1, () -> x.make(1, 5, 0, j));
            due("CORE with j " + j, 1, () -> x.make(1, 12, 0, j));
            due("both are acts", 2, x::undo);
        }
        by(5, "10 SEEN without a set j (bits, 0 to 15), 11 what it has of a set j alone (the IDEAL made by those"
            + " GENERATORS that have no VARIABLES but the set's)");
        PrimaryParts x = with("(a2,bc,d3)", "(1)", "()");
        String[] only = {
            "()", "(a2)", "()", "(a2)", "()", "(a2)", "(bc)", "(a2,bc)",
            "(d3)", "(a2,d3)", "(d3)", "(a2,d3)", "(d3)", "(a2,d3)", "(bc,d3)", "(a2,bc,d3)",
        };
        String[] without = {
            "(a2,bc,d3)", "(1)", "(c,a2,d3)", "(1)", "(b,a2,d3)", "(1)", "(1)", "(1)", "(1)",
        };
        for (int set = 0; set < 16; set++) {
            int j = set;
            due("set " + set + " alone", only[set], () -> made(x, 11, 0, j));
            due("seen without set " + set, without[Math.min(8, set)], () -> made(x, 10, 0, j));
            due("WHOLE, set " + set + " alone", "(1)", () -> made(x, 11, 1, j));
            due("WHOLE, seen without set " + set, "(1)", () -> made(x, 10, 1, j));
            due("EMPTY, set " + set + " alone", "()", () -> made(x, 11, 2, j));
            due("EMPTY, seen without set " + set, "()", () -> made(x, 10, 2, j));
        }
    }

    private static String made(PrimaryParts x, int how, int i, int j) {
        int answer = x.make(7, how, i, j);
        return answer < 0 ? String.valueOf(answer) : Checks.spoken(x, 7);
    }

    private static void promise5Places() {
        by(5, "NONE (ahead of these): no such PLACE, how, POWER, PART, IRREDUCIBLE ONE, set. (What is below 0 changes"
            + " nothing.)");
        for (int bad : NO_PLACES) {
            for (int how = 0; how <= 13; how++) {
                int h = how;
                still("make " + how + " at place " + bad, NONE, x -> x.make(bad, h, 0, 0));
                still("make " + how + " of place " + bad, NONE, x -> x.make(0, h, bad, 0));
                if (how < 5) {
                    still("make " + how + " by place " + bad, NONE, x -> x.make(0, h, 0, bad));
                }
            }
        }
        for (int bad : new int[] {-1, 14, MIN, MAX}) {
            still("how " + bad, NONE, x -> x.make(0, bad, 0, 0));
        }
        for (int how = 0; how <= 13; how++) {
            int h = how;
            due("how " + how + " at place 7, of place 7", true, () -> Still.full().make(7, h, 7, h < 5 ? 4 : 0) >= 0);
        }
        for (int how = 0; how < 5; how++) {
            int h = how;
            due("how " + how + " by place 7", true, () -> with("(a)").make(0, h, 0, 7) >= 0);
        }
    }

    /** Place 0 has two PARTS and two IRREDUCIBLE ONES, place 5 one PART and 81 IRREDUCIBLE ONES. */
    private static void promise5Numbers() {
        int[][] limits = {
            {6, 0, 9, GREAT}, {7, 0, 1, 2}, {8, 0, 1, 2}, {9, 0, 1, 2}, {10, 0, 15, 1}, {11, 0, 15, 2},
            {13, 0, 9, GREAT},
        };
        for (int[] row : limits) {
            due("how " + row[0] + " least", true, () -> with("(a2,ab)").make(1, row[0], 0, row[1]) >= 0);
            due("how " + row[0] + " most", row[3], () -> with("(a2,ab)").make(1, row[0], 0, row[2]));
        }
        int[][] wrong = {
            {6, -1}, {6, 10}, {13, -1}, {13, 10}, {7, -1}, {7, 2}, {8, -1}, {8, 2}, {9, -1}, {9, 2}, {10, -1}, {10, 16},
            {11, -1}, {11, 16},
        };
        for (int[] row : wrong) {
            still("how " + row[0] + " by " + row[1], NONE, x -> x.make(0, row[0], 0, row[1]));
            still("how " + row[0] + " by MIN", NONE, x -> x.make(0, row[0], 0, MIN));
            still("how " + row[0] + " by MAX", NONE, x -> x.make(0, row[0], 0, MAX));
        }
        for (int how = 7; how <= 9; how++) {
            int h = how;
            still("how " + how + " of WHOLE by 0", NONE, x -> x.make(0, h, 3, 0));
            still("how " + how + " of WHOLE by -1", NONE, x -> x.make(0, h, 3, -1));
            still("how " + how + " of EMPTY by 1", NONE, x -> x.make(0, h, 4, 1));
            due("how " + how + " of EMPTY by 0", 0, () -> Still.full().make(0, h, 4, 0));
        }
        due("the last of 81 irreducible ones", 4, () -> Still.full().make(0, 8, 5, 80));
        still("one more", NONE, x -> x.make(0, 8, 5, 81));
        due("the one part of it", 20, () -> Still.full().make(0, 7, 5, 0));
        still("one more part", NONE, x -> x.make(0, 7, 5, 1));
    }

    private static void promise5AheadOf() {
        still("GREAT", GREAT, x -> x.make(0, 1, 2, 2));
        still("GREAT by a power", GREAT, x -> x.make(0, 6, 2, 2));
        still("GREAT by a deep power", GREAT, x -> x.make(0, 13, 2, 2));
        still("MANY", MANY, x -> x.make(0, 1, 1, 6));
        still("MANY by a power", MANY, x -> x.make(0, 6, 6, 6));
        still("MANY by a deep power", MANY, x -> x.make(0, 13, 6, 6));
        for (int bad : NO_PLACES) {
            still("GREAT at place " + bad, NONE, x -> x.make(bad, 1, 2, 2));
            still("GREAT by a power at place " + bad, NONE, x -> x.make(bad, 6, 2, 2));
            still("MANY at place " + bad, NONE, x -> x.make(bad, 1, 1, 6));
            still("MANY by a deep power at place " + bad, NONE, x -> x.make(bad, 13, 6, 6));
        }
        still("a power beyond, on the way GREAT", NONE, x -> x.make(0, 6, 2, 10));
        still("a power beyond, on the way MANY", NONE, x -> x.make(0, 6, 6, 10));
        still("a deep power beyond, on the way GREAT", NONE, x -> x.make(0, 13, 2, 10));
    }

    private static void promise6() {
        by(6, "-3: MANY; NONE (ahead of that): no such PLACE, no such EXPONENT, a GENERATOR that doesn't DIVIDE. (What"
            + " is below 0 changes nothing.)");
        still("MANY", MANY, x -> x.dual(0, 5, 9, 9, 9, 9));
        still("MANY in the widest box", MANY, x -> x.dual(0, 5, 12, 12, 12, 12));
        for (int bad : NO_PLACES) {
            still("place " + bad, NONE, x -> x.dual(bad, 0, 2, 2, 2, 2));
            still("of place " + bad, NONE, x -> x.dual(0, bad, 2, 2, 2, 2));
            still("MANY at place " + bad, NONE, x -> x.dual(bad, 5, 9, 9, 9, 9));
        }
        for (int bad : NO_EXPONENTS) {
            still("a " + bad, NONE, x -> x.dual(0, 5, bad, 9, 9, 9));
            still("b " + bad, NONE, x -> x.dual(0, 5, 9, bad, 9, 9));
            still("c " + bad, NONE, x -> x.dual(0, 5, 9, 9, bad, 9));
            still("d " + bad, NONE, x -> x.dual(0, 5, 9, 9, 9, bad));
            still("of EMPTY, a " + bad, NONE, x -> x.dual(0, 4, bad, 9, 9, 9));
            still("of WHOLE, d " + bad, NONE, x -> x.dual(0, 3, 9, 9, 9, bad));
        }
        still("a9 doesn't divide", NONE, x -> x.dual(0, 5, 8, 9, 9, 9));
        still("b9 doesn't divide", NONE, x -> x.dual(0, 5, 9, 8, 9, 9));
        still("c9 doesn't divide", NONE, x -> x.dual(0, 5, 9, 9, 8, 9));
        still("d9 doesn't divide", NONE, x -> x.dual(0, 5, 9, 9, 9, 8));
        still("b12 doesn't divide", NONE, x -> x.dual(0, 7, 0, 11, 1, 0));
        due("b12 and c divide", 1, () -> Still.full().dual(0, 7, 0, 12, 1, 0));
        due("the least box of EMPTY", 1, () -> Still.full().dual(0, 4, 0, 0, 0, 0));
        due("the widest box of WHOLE", 0, () -> Still.full().dual(0, 3, 12, 12, 12, 12));
        PrimaryParts x = Still.full();
        due("place 7 of place 7", 1, () -> x.dual(7, 7, 0, 12, 1, 0));
        due("it is an act", 16, x::undo);
    }

    private static void counted(String text, int what, int want) {
        PrimaryParts x = with(text);
        due("count " + what + " of " + text, want, () -> x.count(0, what));
    }

    private static void promise7() {
        by(7, "7 how many MONOMIALS aren't in it (NONE: no end)");
        counted("()", 7, NONE);
        counted("(1)", 7, 0);
        counted("(a,b,c,d)", 7, 1);
        counted("(a12,b12,c12,d12)", 7, 20736);
        counted("(a12,b12,c12)", 7, NONE);
        counted("(a,b,c,abcd12)", 7, NONE);
        counted("(a2,b,c,d)", 7, 2);
        by(7, "8 whether it is its own RADICAL, 9 PRIMARY (it has one PART), 10 IRREDUCIBLE (one IRREDUCIBLE ONE)");
        String[] texts = {"()", "(1)", "(a)", "(a2)", "(abcd)", "(a,b2)", "(a2,ab,b2)", "(a,b)&(c,d)"};
        int[] own = {1, 1, 1, 0, 1, 0, 0, 1};
        int[] primary = {1, 0, 1, 1, 0, 1, 1, 0};
        int[] irreducible = {1, 0, 1, 1, 0, 1, 0, 0};
        for (int k = 0; k < texts.length; k++) {
            counted(texts[k], 8, own[k]);
            counted(texts[k], 9, primary[k]);
            counted(texts[k], 10, irreducible[k]);
        }
        for (String letter : LETTERS.split("")) {
            counted("(" + letter + ")", 8, 1);
            counted("(" + letter + "2)", 8, 0);
            counted("(abcd," + letter + "12)", 8, 0);
        }
        by(7, "11 the greatest DEGREE of a GENERATOR (NONE: EMPTY)");
        counted("()", 11, NONE);
        counted("(1)", 11, 0);
        counted("(a)", 11, 1);
        counted("(a12b12c12d12)", 11, 48);
        counted("(a,b12)", 11, 12);
        by(7, "NoSuchElementException: no such PLACE, another what.");
        for (int what = 0; what <= 11; what++) {
            int w = what;
            due("what " + what + " of place 7", true, () -> Still.full().count(7, w) >= NONE);
            for (int bad : NO_PLACES) {
                still("what " + what + " of place " + bad, NO_SUCH, x -> x.count(bad, w));
            }
        }
        for (int bad : new int[] {-1, 12, MIN, MAX}) {
            still("what " + bad, NO_SUCH, x -> x.count(0, bad));
            still("what " + bad + " of EMPTY", NO_SUCH, x -> x.count(4, bad));
            still("what " + bad + " of no place", NO_SUCH, x -> x.count(8, bad));
        }
    }

    private static void promise8() {
        by(8, "NoSuchElementException: no such PLACE, GENERATOR, VARIABLE.");
        PrimaryParts x = Still.full();
        due("the first", 2, () -> x.generator(0, 0, 0));
        due("the last", 1, () -> x.generator(0, 1, 1));
        due("the 56th", 5, () -> x.generator(1, 55, 3));
        due("place 7", 12, () -> x.generator(7, 1, 1));
        due("1", 0, () -> x.generator(3, 0, 3));
        for (int bad : NO_PLACES) {
            still("place " + bad, NO_SUCH, y -> y.generator(bad, 0, 0));
        }
        for (int bad : new int[] {-1, 2, MIN, MAX}) {
            still("generator " + bad, NO_SUCH, y -> y.generator(0, bad, 0));
        }
        for (int bad : NO_VARIABLES) {
            still("variable " + bad, NO_SUCH, y -> y.generator(0, 0, bad));
        }
        still("a 57th", NO_SUCH, y -> y.generator(1, 56, 0));
        still("a second one of WHOLE", NO_SUCH, y -> y.generator(3, 1, 0));
        still("one of EMPTY", NO_SUCH, y -> y.generator(4, 0, 0));
        due("the 60th", 0, () -> with("(a,b,c)^8+[(a,b,c)^4*(d)]").generator(0, 59, 3));
        due("a 61st", NO_SUCH, () -> with("(a,b,c)^8+[(a,b,c)^4*(d)]").generator(0, 60, 3));
    }

    private static void promise9() {
        by(9, "NoSuchElementException: no such PLACE. IllegalArgumentException (behind that): an EXPONENT below 0.");
        PrimaryParts x = Still.full();
        due("all 0", false, () -> x.has(0, 0, 0, 0, 0));
        due("all 0 in WHOLE", true, () -> x.has(3, 0, 0, 0, 0));
        due("the greatest", true, () -> x.has(0, MAX, MAX, MAX, MAX));
        due("the greatest in EMPTY", false, () -> x.has(4, MAX, MAX, MAX, MAX));
        due("11 in place 7", false, () -> x.has(7, MAX, 11, 0, MAX));
        due("12 in place 7", true, () -> x.has(7, 0, 12, 0, 0));
        for (int bad : NO_PLACES) {
            still("place " + bad, NO_SUCH, y -> y.has(bad, 0, 0, 0, 0));
            still("place " + bad + " ahead of exponents", NO_SUCH, y -> y.has(bad, -1, MIN, -1, MIN));
        }
        for (int bad : new int[] {-1, MIN}) {
            for (int place : new int[] {0, 3, 4, 7}) {
                still("a " + bad, ILLEGAL, y -> y.has(place, bad, MAX, 0, 0));
                still("b " + bad, ILLEGAL, y -> y.has(place, 0, bad, MAX, 0));
                still("c " + bad, ILLEGAL, y -> y.has(place, 0, 0, bad, MAX));
                still("d " + bad, ILLEGAL, y -> y.has(place, MAX, 0, 0, bad));
            }
        }
    }

    private static void promise10() {
        by(10, "NoSuchElementException: no such PLACES.");
        for (int bad : NO_PLACES) {
            still("place " + bad + " in 0", NO_SUCH, x -> x.within(bad, 0));
            still("place 0 in " + bad, NO_SUCH, x -> x.within(0, bad));
            still("EMPTY in " + bad, NO_SUCH, x -> x.within(4, bad));
            still("place " + bad + " in WHOLE", NO_SUCH, x -> x.within(bad, 3));
            still("place " + bad + " in itself", NO_SUCH, x -> x.within(bad, bad));
        }
        by(10, "Whether all that is in the IDEAL of PLACE i is in that of PLACE j.");
        PrimaryParts x = Still.full();
        for (int k = 0; k < 8; k++) {
            int place = k;
            due("itself " + k, true, () -> x.within(place, place));
            due("in WHOLE " + k, true, () -> x.within(place, 3));
            due("EMPTY in " + k, true, () -> x.within(4, place));
            due("WHOLE in " + k, k == 3, () -> x.within(3, place));
            due("in EMPTY " + k, k == 4, () -> x.within(place, 4));
        }
    }

    private static void promise11() {
        by(11, "NoSuchElementException: no such PLACE, PART, another what.");
        PrimaryParts x = Still.full();
        due("the last what of the last part", 1, () -> x.part(0, 1, 4));
        due("the first what of the first part", 1, () -> x.part(0, 0, 0));
        due("the one part of EMPTY", 0, () -> x.part(4, 0, 0));
        for (int what = 0; what <= 4; what++) {
            int w = what;
            for (int bad : NO_PLACES) {
                still("place " + bad, NO_SUCH, y -> y.part(bad, 0, w));
            }
            for (int bad : new int[] {-1, 2, MIN, MAX}) {
                still("part " + bad, NO_SUCH, y -> y.part(0, bad, w));
            }
            still("a part of WHOLE", NO_SUCH, y -> y.part(3, 0, w));
            still("a second part of EMPTY", NO_SUCH, y -> y.part(4, 1, w));
        }
        for (int bad : new int[] {-1, 5, MIN, MAX}) {
            still("what " + bad, NO_SUCH, y -> y.part(0, 0, bad));
        }
        by(11, "GENERATORS of it (3; -3: MANY)");
        PrimaryParts y = with("(b3,bc2,c3,c2d,ad3)^4", "(c2,d2,a2b,acd,b2c)^4");
        due("60", 60, () -> y.part(0, 1, 3));
        due("61", MANY, () -> y.part(1, 2, 3));
        due("its prime is told", 15, () -> y.part(1, 2, 0));
        due("its irreducible ones too", true, () -> y.part(1, 2, 2) > 0);
        due("its pairs too", true, () -> y.part(1, 2, 4) > 0);
    }

    private interface OfPart {
        int answer(PrimaryParts x, int place, int part, int variable);
    }

    private static void promise12And13() {
        by(12, "NoSuchElementException: no such PLACE, PART, VARIABLE.");
        wrongParts("witness", PrimaryParts::witness);
        by(13, "NoSuchElementException: no such PLACE, PART, VARIABLE.");
        wrongParts("proof", PrimaryParts::proof);
    }

    private static void wrongParts(String what, OfPart call) {
        PrimaryParts x = Still.full();
        due(what + " of the last part, a", 1, () -> call.answer(x, 0, 1, 0));
        due(what + " of the first part, d", 0, () -> call.answer(x, 0, 0, 3));
        due(what + " of EMPTY", 0, () -> call.answer(x, 4, 0, 3));
        for (int bad : NO_PLACES) {
            still(what + " place " + bad, NO_SUCH, y -> call.answer(y, bad, 0, 0));
        }
        for (int bad : new int[] {-1, 2, MIN, MAX}) {
            still(what + " part " + bad, NO_SUCH, y -> call.answer(y, 0, bad, 0));
        }
        for (int bad : NO_VARIABLES) {
            still(what + " variable " + bad, NO_SUCH, y -> call.answer(y, 0, 0, bad));
            still(what + " of EMPTY, variable " + bad, NO_SUCH, y -> call.answer(y, 4, 0, bad));
        }
        still(what + " of WHOLE", NO_SUCH, y -> call.answer(y, 3, 0, 0));
        still(what + " of a second part of EMPTY", NO_SUCH, y -> call.answer(y, 4, 1, 0));
    }

    private static void wrongRows(String what, OfPart call, int place, int size) {
        for (int bad : NO_PLACES) {
            still(what + " place " + bad, NO_SUCH, y -> call.answer(y, bad, 0, 0));
            still(what + " place " + bad + " with NONE", NO_SUCH, y -> call.answer(y, bad, 0, NONE));
        }
        for (int bad : new int[] {-1, size, MIN, MAX}) {
            still(what + " " + bad, NO_SUCH, y -> call.answer(y, place, bad, 0));
            still(what + " " + bad + " with NONE", NO_SUCH, y -> call.answer(y, place, bad, NONE));
        }
        for (int bad : NO_VARIABLES_NOR_NONE) {
            still(what + " variable " + bad, NO_SUCH, y -> call.answer(y, place, 0, bad));
            still(what + " of EMPTY, variable " + bad, NO_SUCH, y -> call.answer(y, 4, 0, bad));
        }
        for (int variable = NONE; variable < 4; variable++) {
            int v = variable;
            still(what + " of WHOLE", NO_SUCH, y -> call.answer(y, 3, 0, v));
            still(what + " of EMPTY, a second one", NO_SUCH, y -> call.answer(y, 4, 1, v));
        }
    }

    private static void promise14() {
        by(14, "(0: it isn't made of it); variable NONE: the number of its PART. NoSuchElementException: no such PLACE,"
            + " IRREDUCIBLE ONE, VARIABLE.");
        PrimaryParts x = Still.full();
        due("not made of d", 0, () -> x.irreducible(0, 1, 3));
        due("the first one's part", 0, () -> x.irreducible(0, 0, NONE));
        due("the last one's part", 1, () -> x.irreducible(0, 1, NONE));
        due("the first of 81, a", 1, () -> x.irreducible(5, 0, 0));
        due("the last of 81, a", 9, () -> x.irreducible(5, 80, 0));
        due("the last of 81, d", 1, () -> x.irreducible(5, 80, 3));
        due("EMPTY's part", 0, () -> x.irreducible(4, 0, NONE));
        due("EMPTY isn't made of a", 0, () -> x.irreducible(4, 0, 0));
        wrongRows("irreducible one", PrimaryParts::irreducible, 5, 81);
    }

    private static void promise15() {
        by(15, "variable NONE: its set, as bits. NoSuchElementException: no such PLACE, PAIR, VARIABLE.");
        PrimaryParts x = Still.full();
        due("pairs of place 5", 45 * 45, () -> x.count(5, 6));
        due("the first one's set", 0, () -> x.pair(5, 0, NONE));
        due("the last one's a", 0, () -> x.pair(5, 45 * 45 - 1, 0));
        due("the last one's d", 8, () -> x.pair(5, 45 * 45 - 1, 3));
        due("EMPTY's set", 15, () -> x.pair(4, 0, NONE));
        due("EMPTY's monomial", 0, () -> x.pair(4, 0, 3));
        wrongRows("pair", PrimaryParts::pair, 5, 45 * 45);
    }

    private static void promise16() {
        by(16, "OUTSIDE of a DEGREE (0 to 40). NoSuchElementException: no such PLACE. IllegalArgumentException (behind"
            + " that): another DEGREE.");
        PrimaryParts x = Still.full();
        due("degree 0", 1, () -> x.outside(0, 0));
        due("degree 40", 861 + 40, () -> x.outside(0, 40));
        due("WHOLE, degree 40", 0, () -> x.outside(3, 40));
        due("place 7, degree 40", 12 * 41 - 66, () -> x.outside(7, 40));
        for (int bad : NO_PLACES) {
            still("place " + bad + ", degree 0", NO_SUCH, y -> y.outside(bad, 0));
            still("place " + bad + ", degree 40", NO_SUCH, y -> y.outside(bad, 40));
            for (int worse : NO_DEGREES) {
                still("place " + bad + " ahead of degree " + worse, NO_SUCH, y -> y.outside(bad, worse));
            }
        }
        for (int bad : NO_DEGREES) {
            still("degree " + bad, ILLEGAL, y -> y.outside(0, bad));
            still("degree " + bad + " of place 7", ILLEGAL, y -> y.outside(7, bad));
        }
    }

    private static void promise17() {
        by(17, "NoSuchElementException: no such PLACE, VARIABLE. IllegalArgumentException (behind that): another"
            + " DEGREE.");
        PrimaryParts x = Still.full();
        due("degree 0", 0, () -> x.outer(0, 0, 0, 0));
        due("degree 40, the first", 40, () -> x.outer(4, 40, 0, 0));
        due("degree 40, the last", 40, () -> x.outer(4, 40, 12340, 3));
        for (int bad : NO_PLACES) {
            still("place " + bad, NO_SUCH, y -> y.outer(bad, 0, 0, 0));
            still("place " + bad + " ahead of i", NO_SUCH, y -> y.outer(bad, 0, -1, 0));
            still("place " + bad + " ahead of degree", NO_SUCH, y -> y.outer(bad, 41, 0, 0));
        }
        for (int bad : NO_VARIABLES) {
            still("variable " + bad, NO_SUCH, y -> y.outer(0, 0, 0, bad));
            still("variable " + bad + " ahead of i", NO_SUCH, y -> y.outer(0, 0, MAX, bad));
            still("variable " + bad + " ahead of degree", NO_SUCH, y -> y.outer(0, -1, 0, bad));
        }
        for (int bad : NO_DEGREES) {
            still("degree " + bad, ILLEGAL, y -> y.outer(0, bad, 0, 0));
            still("degree " + bad + " ahead of i", ILLEGAL, y -> y.outer(0, bad, -1, 3));
            still("degree " + bad + " of WHOLE", ILLEGAL, y -> y.outer(3, bad, MAX, 3));
        }
        by(17, "NONE: there are not so many, i below 0.");
        for (int v = 0; v < 4; v++) {
            int variable = v;
            still("i -1", NONE, y -> y.outer(4, 40, -1, variable));
            still("i MIN", NONE, y -> y.outer(4, 40, MIN, variable));
            still("i MAX", NONE, y -> y.outer(4, 40, MAX, variable));
            still("one too far in degree 40", NONE, y -> y.outer(4, 40, 12341, variable));
            still("one too far in degree 0", NONE, y -> y.outer(4, 0, 1, variable));
            still("none of WHOLE", NONE, y -> y.outer(3, 0, 0, variable));
            still("none of WHOLE in degree 40", NONE, y -> y.outer(3, 40, 0, variable));
            still("none of degree 5", NONE, y -> y.outer(1, 5, 0, variable));
        }
        due("the last of degree 4", 4, () -> x.outer(1, 4, 34, 3));
        still("one too far in degree 4", NONE, y -> y.outer(1, 4, 35, 3));
    }

    private static void promise18() {
        by(18, "How many MONOMIALS of a DEGREE (0 to 40) are in the IDEAL of PLACE i and not in that of PLACE j.");
        PrimaryParts x = Still.full();
        due("WHOLE, not EMPTY, 0", 1, () -> x.between(3, 4, 0));
        due("WHOLE, not EMPTY, 40", 12341, () -> x.between(3, 4, 40));
        due("EMPTY, not WHOLE, 40", 0, () -> x.between(4, 3, 40));
        due("itself, 40", 0, () -> x.between(5, 5, 40));
        due("WHOLE, not place 6, 0", 1, () -> x.between(3, 6, 0));
        due("WHOLE, not place 6, 1", 0, () -> x.between(3, 6, 1));
        by(18, "NoSuchElementException: no such PLACES. IllegalArgumentException (behind that): another DEGREE.");
        for (int bad : NO_PLACES) {
            still("place " + bad + " first", NO_SUCH, y -> y.between(bad, 0, 0));
            still("place " + bad + " second", NO_SUCH, y -> y.between(0, bad, 40));
            still("place " + bad + " first, ahead of degree", NO_SUCH, y -> y.between(bad, 0, 41));
            still("place " + bad + " second, ahead of degree", NO_SUCH, y -> y.between(0, bad, -1));
        }
        for (int bad : NO_DEGREES) {
            still("degree " + bad, ILLEGAL, y -> y.between(0, 1, bad));
            still("degree " + bad + " of the same one", ILLEGAL, y -> y.between(7, 7, bad));
        }
    }

    private static void promise19() {
        by(19, "STEADY of an IDEAL. NoSuchElementException: no such PLACE.");
        due("36", 36, () -> with("(a12b12c12d3)").steady(0));
        due("NONE", NONE, () -> with("(a12b12c12d4)").steady(0));
        due("place 7", 10, () -> Still.full().steady(7));
        for (int bad : NO_PLACES) {
            still("place " + bad, NO_SUCH, y -> y.steady(bad));
        }
    }

    private static void promise20() {
        by(20, "The latest ACT is UNDONE: how many still can be; NONE: none can.");
        PrimaryParts x = new PrimaryParts();
        due("none yet", NONE, x::undo);
        due("an act", 1, () -> Checks.tell(x, 0, "(a)"));
        due("none are left", 0, x::undo);
        due("undone", "()", () -> Checks.spoken(x, 0));
        due("none", NONE, x::undo);
        due("an undone one isn't an act", NONE, x::undo);
        due("and nothing changes", "()", () -> Checks.spoken(x, 0));
        PrimaryParts y = new PrimaryParts();
        for (int k = 0; k < 21; k++) {
            Checks.tell(y, k % 8, "(b" + (k % 8 + 1) + ")");
        }
        due("of 21 the latest 20", 19, y::undo);
        for (int left = 18; left >= 0; left--) {
            due("left", left, y::undo);
        }
        due("the 21st can't", NONE, y::undo);
        due("it stays", "(b)", () -> Checks.spoken(y, 0));
        for (int place = 1; place < 8; place++) {
            int p = place;
            due("all others are EMPTY", 0, () -> y.count(p, 0));
        }
        PrimaryParts z = Still.full();
        for (int left = 15; left >= 0; left--) {
            due("left", left, z::undo);
        }
        for (int more = 0; more < 3; more++) {
            due("none", NONE, z::undo);
        }
        due("the tape is as it was", Still.TAPED + 20, () -> z.feed(0, 0, 0, 0, 0));
        due("the fault too", Still.FAULT, z::fault);
    }

    private static void promise21() {
        by(21, "All PLACES are kept as they are now (instead of what was kept): how many of them aren't EMPTY.");
        PrimaryParts x = new PrimaryParts();
        due("none", 0, x::image);
        for (int place = 0; place < 8; place++) {
            Checks.tell(x, place, place == 7 ? "(1)" : "(a" + (place + 1) + ")");
            due("so many", place + 1, x::image);
            due("no act", place, () -> x.undo());
            Checks.tell(x, place, place == 7 ? "(1)" : "(a" + (place + 1) + ")");
        }
        Checks.tell(x, 0, "()");
        due("one less", 7, x::image);
        Checks.tell(x, 0, "(b)");
        due("back", true, x::back);
        due("what was kept latest", "()", () -> Checks.spoken(x, 0));
        due("what was kept latest", "(1)", () -> Checks.spoken(x, 7));
        PrimaryParts y = Still.full();
        due("image", 7, y::image);
        due("the tape is as it was", Still.TAPED + 20, () -> y.feed(0, 0, 0, 0, 0));
        due("the fault too", Still.FAULT, y::fault);
        due("what is said too", (int) 'a', () -> y.said(1));
        due("the acts too", 15, y::undo);
    }

    private static void promise22() {
        by(22, "All PLACES are as they were kept (they stay kept): true; false: nothing was kept.");
        PrimaryParts x = with("(a)");
        due("nothing was kept", false, x::back);
        due("nothing was kept, again", false, x::back);
        due("as it was", "(a)", () -> Checks.spoken(x, 0));
        due("no act", 0, x::undo);
        PrimaryParts y = new PrimaryParts();
        due("image of EMPTY ones", 0, y::image);
        due("that was kept", true, y::back);
        due("an act, though all was so", 0, y::undo);
        Checks.tell(y, 7, "(a)");
        due("back", true, y::back);
        due("EMPTY", "()", () -> Checks.spoken(y, 7));
        Checks.tell(y, 7, "(b)");
        due("they stay kept", true, y::back);
        due("EMPTY", "()", () -> Checks.spoken(y, 7));
        PrimaryParts z = Still.full();
        due("back", true, z::back);
        due("the tape is as it was", Still.TAPED + 20, () -> z.feed(0, 0, 0, 0, 0));
        due("the fault too", Still.FAULT, z::fault);
        due("what is said too", (int) 'd', () -> z.said(7));
        due("it is the latest act", 16, z::undo);
        due("all as it was ahead of it", "(b12,c)".length(), () -> z.say(7));
    }

    private static void promise23() {
        by(23, "of each LETTERS from a on, an EXPONENT of 1 left out; 1 is 1: how many bytes. NoSuchElementException:"
            + " no such PLACE.");
        String[] texts = {"()", "(1)", "(a)", "(a2)", "(a9)", "(a10)", "(a11)", "(a12)", "(abcd)", "(a12b12c12d12)"};
        for (String text : texts) {
            PrimaryParts x = with(text);
            due("say " + text, text.length(), () -> x.say(0));
            due("said " + text, text, () -> Checks.spoken(x, 0));
        }
        PrimaryParts x = with("(d12c1b2a1)", "(d,c,b,a)");
        due("letters from a on", "(ab2cd12)", () -> Checks.spoken(x, 0));
        due("generators in order", "(a,b,c,d)", () -> Checks.spoken(x, 1));
        longest();
        for (int bad : NO_PLACES) {
            still("place " + bad, NO_SUCH, y -> y.say(bad));
        }
    }

    /** Sixty generators, most of them with four exponents of two figures. */
    private static void longest() {
        PrimaryParts x = with("(a,b,c)^2*(a10b10c10d10)", "(a,b,c,d)^3*(b4,c4,a4d)");
        due("six", "(a12b10c10d10,a11b11c10d10,a11b10c11d10,a10b12c10d10,a10b11c11d10,a10b10c12d10)",
            () -> Checks.spoken(x, 0));
        due("sixty", 60, () -> x.count(1, 0));
        String said = Checks.spoken(x, 1);
        due("commas between them", 59L, () -> said.chars().filter(sign -> sign == ',').count());
        due("the last byte", (int) ')', () -> x.said(said.length() - 1));
        due("none behind it", NONE, () -> x.said(said.length()));
        String wide = "(a,b,c)^9*(abcd)*(a2b2c2d9)";
        due("the widest corner of (a,b,c)^9", 55, () -> Checks.tell(new PrimaryParts(), 0, wide));
        String whole = longSpoken(wide);
        due("it begins", true, () -> whole.startsWith("(a12b3c3d10,a11b4c3d10,a11b3c4d10,"));
        due("it ends", true, () -> whole.endsWith(",a3b3c12d10)"));
    }

    /** More bytes than one object has calls for: a new one says the same for each four hundred of them. */
    private static String longSpoken(String text) {
        StringBuilder out = new StringBuilder();
        PrimaryParts x = with(text);
        int size = x.say(0);
        for (int k = 0; k < size; k++) {
            if (k > 0 && k % 400 == 0) {
                x = with(text);
                x.say(0);
            }
            out.append((char) x.said(k));
        }
        return out.toString();
    }

    private static void promise24() {
        by(24, "Byte i of what the latest say() SAID (as it was then, whatever came since); NONE: there is none such,"
            + " nothing was SAID.");
        PrimaryParts x = new PrimaryParts();
        for (int i : new int[] {MIN, -1, 0, 1, MAX}) {
            due("nothing was said, byte " + i, NONE, () -> x.said(i));
        }
        due("say at no place", NO_SUCH, () -> x.say(8));
        due("nothing was said", NONE, () -> x.said(0));
        due("say", 2, () -> x.say(0));
        for (int i : new int[] {MIN, -1, 2, MAX}) {
            due("said (), byte " + i, NONE, () -> x.said(i));
        }
        due("said (), byte 0", 40, () -> x.said(0));
        due("said (), byte 1", 41, () -> x.said(1));
        Checks.tell(x, 0, "(a12)");
        x.image();
        due("as it was then", 41, () -> x.said(1));
        due("say", 5, () -> x.say(0));
        Checks.tell(x, 0, "(b)");
        x.undo();
        x.undo();
        x.back();
        due("as it was then, whatever came since", (int) '2', () -> x.said(3));
        due("the last", (int) ')', () -> x.said(4));
        due("one behind", NONE, () -> x.said(5));
        due("say at no place", NO_SUCH, () -> x.say(MIN));
        due("leaves it", (int) '2', () -> x.said(3));
        due("a shorter one", 2, () -> x.say(7));
        due("is shorter", NONE, () -> x.said(2));
        for (int i : new int[] {MIN, -1, 9, MAX}) {
            still("byte " + i, NONE, y -> y.said(i));
        }
        still("byte 8", (int) ')', y -> y.said(8));
    }

    /** Acts, texts that are refused and questions in turn: the last of 512 answers as the first ones do. */
    private static void allCalls() {
        checks.by("What it is", "An object is used for at most 512 calls after it has been made");
        PrimaryParts x = new PrimaryParts();
        int[] row = Checks.packed("(a2,ab)^2");
        int calls = 0;
        while (calls + 8 <= 512) {
            int n = calls / 8;
            due("feed, call " + calls, 20, () -> x.feed(row[0], row[1], row[2], row[3], row[4]));
            due("tell, behind call " + calls, n % 2 == 0 ? 3 : -11, () -> x.tell(n % 8, n % 2 == 0 ? 9 : 8));
            due("fault, behind call " + calls, n % 2 == 0 ? NONE : 8, x::fault);
            due("make, behind call " + calls, 1, () -> x.make(7, 12, n / 2 * 2 % 8, 0));
            due("steady, behind call " + calls, 2, () -> x.steady(n / 2 * 2 % 8));
            due("image, behind call " + calls, Math.min(5, n / 2 + 2), x::image);
            due("back, behind call " + calls, true, x::back);
            due("say, behind call " + calls, 4, () -> x.say(7));
            calls += 8;
        }
        checks.same("calls", 512, calls);
    }
}
