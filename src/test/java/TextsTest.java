import java.util.Random;

/** Random rows of tokens, most of them near the edge of what a text may be, beside the naive reader. */
public final class TextsTest {
    private static final String[] HEADS = {"", "r", "[", "r[", "[[[", "rrr", "[r[r", "[[[[[", "rrrrr", "[[[[[[", "r[r[r["};
    private static final String[] BASES = {
        "(a)", "()", "(1)", "#0", "#7", "(a2b,c)", "( a ,\nb12 )", "(a2b3c4d5,ab,1)", "#8", "(a13)", "(aa)", "(2)", "(a,",
        "(a b c d)", "(a 1)", "( 01 )", "#007", "# 3", "(d,d,d,d,d,d,d,d,d,d,d,d,d,d,d,d,d,d,d,d,d,d,d,d)",
        "(d,d,d,d,d,d,d,d,d,d,d,d,d,d,d,d,d,d,d,d,d,d,d,d,a)",
    };
    private static final String[] TAILS = {"", "", "", "]", "]]", "]]]", "^0", "^2", "^9", "^10", "^1^1", " ", "]^2", ")", "1"};
    private static final String[] SIGNS = {"+", "*", "&", ":", "!", " + ", "", "-", ",", "++"};

    public static void main(String[] args) {
        Checks checks = new Checks("TextsTest");
        Random random = new Random(11);
        for (int k = 0; k < 20000 && checks.wrong() < 20; k++) {
            compare(checks, text(random));
        }
        checks.finish();
    }

    private static String one(Random random, String[] from) {
        return from[random.nextInt(from.length)];
    }

    private static String text(Random random) {
        StringBuilder out = new StringBuilder();
        int atoms = 1 + random.nextInt(4);
        int open = 0;
        for (int k = 0; k < atoms; k++) {
            String head = one(random, HEADS);
            open += (int) head.chars().filter(c -> c == '[').count();
            String sign = random.nextInt(4) > 0 ? SIGNS[random.nextInt(5)] : one(random, SIGNS);
            String base = random.nextInt(4) > 0 ? BASES[random.nextInt(8)] : one(random, BASES);
            out.append(k > 0 ? sign : "").append(head).append(base);
            if (random.nextInt(3) == 0) {
                out.append(one(random, TAILS));
            }
            for (; open > 0 && random.nextInt(3) > 0; open--) {
                out.append(']');
            }
        }
        if (random.nextInt(4) > 0) {
            out.append("]".repeat(open));
        }
        return out.length() > 200 ? out.substring(0, 200) : out.toString();
    }

    private static void compare(Checks checks, String text) {
        PrimaryParts x = new PrimaryParts();
        NaiveParts y = new NaiveParts();
        int[] row = Checks.packed(text);
        for (int k = 0; k < row.length; k += 5) {
            x.feed(row[k], row[k + 1], row[k + 2], row[k + 3], row[k + 4]);
            y.feed(row[k], row[k + 1], row[k + 2], row[k + 3], row[k + 4]);
        }
        checks.same("tell " + text, Checks.answerOf(() -> y.tell(0, text.length())),
            Checks.answerOf(() -> x.tell(0, text.length())));
        checks.same("fault of " + text, y.fault(), x.fault());
    }
}
