import java.util.Random;

/** Runs of random calls, seeded, on a PrimaryParts and a NaiveParts side by side: each answer is compared. */
public final class RandomRunsTest {
    private static final int CALLS = 512;

    private final Checks checks;
    private final Random random;
    private final int run;
    private final int greatest;
    private final PrimaryParts x = new PrimaryParts();
    private final NaiveParts y = new NaiveParts();
    private int calls;

    private RandomRunsTest(Checks checks, int run) {
        this.checks = checks;
        this.run = run;
        random = new Random(run * 7919L + 1);
        int[] limits = {1, 2, 2, 3, 3, 4, 6, 12};
        greatest = limits[run % limits.length];
    }

    public static void main(String[] args) {
        int runs = args.length > 0 ? Integer.parseInt(args[0]) : 64;
        int first = args.length > 1 ? Integer.parseInt(args[1]) : 0;
        Checks checks = new Checks("RandomRunsTest");
        for (int run = first; run < first + runs && checks.wrong() < 20; run++) {
            new RandomRunsTest(checks, run).go();
        }
        checks.finish();
    }

    private void go() {
        while (calls < CALLS) {
            int kind = random.nextInt(10);
            if (kind < 3) {
                tellSome();
            } else if (kind < 5) {
                makeSome();
            } else if (kind < 9) {
                askSome();
            } else {
                turnBack();
            }
        }
    }

    private void both(String what, Checks.Call first, Checks.Call second) {
        calls++;
        if (calls <= CALLS) {
            checks.same("run " + run + " call " + calls + " " + what, Checks.answerOf(second), Checks.answerOf(first));
        }
    }

    /** Mostly a number that fits, now and then one at the edge or far off. */
    private int number(int least, int most) {
        switch (random.nextInt(40)) {
            case 0:
                return least - 1;
            case 1:
                return most + 1;
            case 2:
                return random.nextBoolean() ? Integer.MIN_VALUE : Integer.MAX_VALUE;
            default:
                return least + random.nextInt(most - least + 1);
        }
    }

    private int place() {
        return random.nextInt(12) == 0 ? number(0, 7) : random.nextInt(4);
    }

    private void tellSome() {
        String text = expr(2 + random.nextInt(2));
        if (random.nextInt(4) == 0) {
            text = spoilt(text);
        }
        if (text.length() > 200) {
            text = text.substring(0, 200);
        }
        int[] row = Checks.packed(text);
        for (int k = 0; k < row.length; k += 5) {
            int a = row[k];
            int b = row[k + 1];
            int c = row[k + 2];
            int d = row[k + 3];
            int e = row[k + 4];
            both("feed", () -> x.feed(a, b, c, d, e), () -> y.feed(a, b, c, d, e));
        }
        if (random.nextInt(30) == 0) {
            return;
        }
        int place = place();
        int n = random.nextInt(15) == 0 ? number(0, 200) : text.length();
        both("tell(" + place + ", " + n + ") " + text, () -> x.tell(place, n), () -> y.tell(place, n));
        both("fault()", x::fault, y::fault);
    }

    private String monomial() {
        StringBuilder out = new StringBuilder();
        for (int v = 0; v < 4; v++) {
            int exponent = random.nextInt(5) < 3 ? random.nextInt(greatest + 1) : 0;
            if (exponent > 0) {
                out.append("abcd".charAt(v));
            }
            if (exponent > 1 || exponent == 1 && random.nextInt(9) == 0) {
                out.append(random.nextInt(20) == 0 ? "0" : "").append(exponent);
            }
        }
        if (out.length() == 0 && random.nextInt(4) > 0) {
            return "abcd".substring(random.nextInt(4)).substring(0, 1);
        }
        return out.length() == 0 ? "1" : out.toString();
    }

    private String list() {
        StringBuilder out = new StringBuilder("(");
        int size = random.nextInt(14) == 0 ? random.nextInt(28) : random.nextInt(8);
        for (int k = 0; k < size; k++) {
            out.append(k > 0 ? "," : "").append(monomial());
        }
        return out.append(")").toString();
    }

    private String base(int depth) {
        switch (random.nextInt(depth > 0 ? 10 : 7)) {
            case 0:
            case 1:
                return "#" + random.nextInt(4);
            case 7:
                return "r" + base(depth - 1);
            case 8:
                return "[" + expr(depth - 1) + "]";
            case 9:
                return "[ " + expr(depth - 1) + "\n]";
            default:
                return list();
        }
    }

    private String expr(int depth) {
        StringBuilder out = new StringBuilder();
        int atoms = random.nextInt(3) == 0 ? 1 + random.nextInt(3) : 1;
        for (int k = 0; k < atoms; k++) {
            out.append(k > 0 ? "+*&:!".substring(random.nextInt(5)).substring(0, 1) : "");
            out.append(base(depth));
            if (random.nextInt(6) == 0) {
                out.append("^").append(random.nextInt(4) == 0 ? random.nextInt(10) : 2);
            }
            out.append(random.nextInt(8) == 0 ? " " : "");
        }
        return out.toString();
    }

    private String spoilt(String text) {
        StringBuilder out = new StringBuilder(text);
        String signs = "()[]#r^,abcd0123456789+*&:! \n\u00e9xR";
        int times = 1 + random.nextInt(2);
        for (int k = 0; k < times; k++) {
            int at = random.nextInt(out.length() + 1);
            char sign = signs.charAt(random.nextInt(signs.length()));
            int kind = random.nextInt(3);
            if (kind == 0 || at == out.length()) {
                out.insert(at, sign);
            } else if (kind == 1) {
                out.setCharAt(at, sign);
            } else {
                out.deleteCharAt(at);
            }
        }
        return out.toString();
    }

    private void makeSome() {
        int place = place();
        int i = place();
        if (random.nextInt(8) == 0) {
            int a = box(i, 0);
            int b = box(i, 1);
            int c = box(i, 2);
            int d = box(i, 3);
            both("dual", () -> x.dual(place, i, a, b, c, d), () -> y.dual(place, i, a, b, c, d));
            return;
        }
        int how = number(0, 13);
        int j = how < 5 ? place() : how < 10 ? number(0, 3) : how == 13 ? number(0, 9) : number(0, 15);
        both("make(" + place + ", " + how + ", " + i + ", " + j + ")",
            () -> x.make(place, how, i, j), () -> y.make(place, how, i, j));
    }

    private int box(int i, int v) {
        int top = i >= 0 && i < 8 ? y.ideal(i).top(v) : 0;
        return random.nextInt(20) == 0 ? number(0, 12) : Math.min(12, top + random.nextInt(3));
    }

    private void askSome() {
        int place = place();
        int variable = number(0, 3);
        int edge = number(-1, 3);
        switch (random.nextInt(15)) {
            case 0:
            case 1:
                int what = number(0, 11);
                both("count(" + place + ", " + what + ")", () -> x.count(place, what), () -> y.count(place, what));
                break;
            case 2:
                int i = number(0, 8);
                both("generator", () -> x.generator(place, i, variable), () -> y.generator(place, i, variable));
                break;
            case 3:
                int a = number(0, greatest);
                int b = number(0, greatest);
                both("has", () -> x.has(place, a, b, edge + 1, variable), () -> y.has(place, a, b, edge + 1, variable));
                break;
            case 4:
                int other = place();
                both("within", () -> x.within(place, other), () -> y.within(place, other));
                break;
            case 5:
                int p = number(0, 4);
                int number = number(0, 4);
                both("part(" + place + ", " + p + ", " + number + ")",
                    () -> x.part(place, p, number), () -> y.part(place, p, number));
                break;
            default:
                askMore(place, variable, edge);
        }
    }

    private void askMore(int place, int variable, int edge) {
        int p = number(0, 3);
        int i = random.nextInt(3) == 0 ? number(0, 80) : number(0, 8);
        int degree = random.nextInt(3) > 0 ? number(0, 12) : number(0, 40);
        switch (random.nextInt(9)) {
            case 0:
                both("witness(" + place + ", " + p + ", " + variable + ")",
                    () -> x.witness(place, p, variable), () -> y.witness(place, p, variable));
                break;
            case 1:
                both("proof(" + place + ", " + p + ", " + variable + ")",
                    () -> x.proof(place, p, variable), () -> y.proof(place, p, variable));
                break;
            case 2:
                both("irreducible(" + place + ", " + i + ", " + edge + ")",
                    () -> x.irreducible(place, i, edge), () -> y.irreducible(place, i, edge));
                break;
            case 3:
                both("pair(" + place + ", " + i + ", " + edge + ")",
                    () -> x.pair(place, i, edge), () -> y.pair(place, i, edge));
                break;
            case 4:
                both("outside(" + place + ", " + degree + ")",
                    () -> x.outside(place, degree), () -> y.outside(place, degree));
                break;
            case 5:
                both("outer(" + place + ", " + degree + ", " + i + ", " + variable + ")",
                    () -> x.outer(place, degree, i, variable), () -> y.outer(place, degree, i, variable));
                break;
            case 6:
                int other = place();
                both("between(" + place + ", " + other + ", " + degree + ")",
                    () -> x.between(place, other, degree), () -> y.between(place, other, degree));
                break;
            case 7:
                both("steady(" + place + ")", () -> x.steady(place), () -> y.steady(place));
                break;
            default:
                both("say(" + place + ")", () -> x.say(place), () -> y.say(place));
                both("said(" + i + ")", () -> x.said(i), () -> y.said(i));
        }
    }

    private void turnBack() {
        switch (random.nextInt(5)) {
            case 0:
                both("image", x::image, y::image);
                break;
            case 1:
                both("back", x::back, y::back);
                break;
            default:
                both("undo", x::undo, y::undo);
        }
    }
}
