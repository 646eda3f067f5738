/** What the tests of boundaries share: each runs by itself, so that one row of checks is enough. */
class Edges {
    static final int MIN = Integer.MIN_VALUE;
    static final int MAX = Integer.MAX_VALUE;
    static final int NONE = -1;
    static final int GREAT = -2;
    static final int MANY = -3;
    static final String LETTERS = "abcd";

    /** MANY and GREAT by themselves, as an ATOM each. */
    static final String MANY_ATOM = "(a,b,c,d)^6";
    static final String GREAT_ATOM = "(a7)^2";

    static Checks checks;

    static void begin(String name) {
        checks = new Checks(name);
    }

    /** The next checks go by this sentence of the document's Terms. */
    static void by(String sentence) {
        checks.by("Terms", sentence);
    }

    static void due(String what, Object want, Checks.Call call) {
        checks.due(what, want, call);
    }

    /** A new object with these ideals from place 0 on. */
    static PrimaryParts with(String... texts) {
        PrimaryParts x = new PrimaryParts();
        for (int k = 0; k < texts.length; k++) {
            Checks.tell(x, k, texts[k]);
        }
        return x;
    }

    private static int sizeOf(String said) {
        return said.equals("()") ? 0 : said.split(",").length;
    }

    /** Place 0 of a new object has (a2,ab) and place 7 (c), then the text is told into place 1. */
    static void told(String text, String want) {
        PrimaryParts x = new PrimaryParts();
        Checks.tell(x, 0, "(a2,ab)");
        Checks.tell(x, 7, "(c)");
        Checks.tell(x, 2, "(a");
        due("tell " + text, sizeOf(want), () -> Checks.tell(x, 1, text));
        due("what is told by " + text, want, () -> Checks.spoken(x, 1));
        due("no fault of " + text, NONE, x::fault);
        due("an act by " + text, 2, x::undo);
    }

    static void tells(String text, int want) {
        due("tell " + text, want, () -> Checks.tell(new PrimaryParts(), 0, text));
    }

    static void refused(String text, int why) {
        Still.told(checks, text, why, NONE);
    }

    static void faulty(String text, int kind, int place) {
        Still.told(checks, text, -10 - kind, place);
    }

    static void makes(String i, String j, int how, String want) {
        PrimaryParts x = with(i, j);
        due("make " + how + " of " + i + " and " + j, sizeOf(want), () -> x.make(2, how, 0, 1));
        due("made " + how + " of " + i + " and " + j, want, () -> Checks.spoken(x, 2));
    }

    static void makesBy(String i, int how, int j, String want) {
        PrimaryParts x = with(i);
        due("make " + how + " of " + i + " by " + j, sizeOf(want), () -> x.make(1, how, 0, j));
        due("made " + how + " of " + i + " by " + j, want, () -> Checks.spoken(x, 1));
    }

    static void dual(String text, int a, int b, int c, int d, String want) {
        PrimaryParts x = with(text);
        boolean none = want.equals("NONE");
        String what = "dual of " + text + " in " + a + " " + b + " " + c + " " + d;
        due(what, none ? NONE : sizeOf(want), () -> x.dual(1, 0, a, b, c, d));
        due("made by " + what, none ? "()" : want, () -> Checks.spoken(x, 1));
        due("acts behind " + what, none ? 0 : 1, x::undo);
    }
}
