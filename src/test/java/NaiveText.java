import java.util.ArrayList;
import java.util.List;

/** Reads a TEXT by going down its rules; a fault or a refusal ends it by an exception. */
final class NaiveText {
    static final class Fault extends RuntimeException {
        final int kind;
        final int place;

        Fault(int kind, int place) {
            super(null, null, false, false);
            this.kind = kind;
            this.place = place;
        }
    }

    static final class Refused extends RuntimeException {
        final int why;

        Refused(int why) {
            super(null, null, false, false);
            this.why = why;
        }
    }

    private final List<String> tokens = new ArrayList<>();
    private final List<Integer> starts = new ArrayList<>();
    private final NaiveIdeal[] places;
    private final boolean counts;
    private int at;
    private int open;

    /** counts: ideals are made too (the text must have been read once without). */
    private NaiveText(String text, NaiveIdeal[] places, boolean counts) {
        this.places = places;
        this.counts = counts;
        int k = 0;
        while (k < text.length()) {
            char sign = text.charAt(k);
            int end = k + 1;
            if (sign >= '0' && sign <= '9') {
                while (end < text.length() && text.charAt(end) >= '0' && text.charAt(end) <= '9') {
                    end++;
                }
            }
            if (sign != ' ' && sign != '\n') {
                tokens.add(text.substring(k, end));
                starts.add(k);
            }
            k = end;
        }
        tokens.add("");
        starts.add(text.length());
    }

    static NaiveIdeal read(String text, NaiveIdeal[] places) {
        new NaiveText(text, places, false).all();
        return new NaiveText(text, places, true).all();
    }

    private NaiveIdeal all() {
        NaiveIdeal made = expr();
        if (!tokens.get(at).isEmpty()) {
            throw wrong(1);
        }
        return made;
    }

    private Fault wrong(int kind) {
        return new Fault(kind, starts.get(at));
    }

    private boolean is(String token) {
        return tokens.get(at).equals(token);
    }

    private boolean isNumber() {
        String token = tokens.get(at);
        return !token.isEmpty() && token.charAt(0) >= '0' && token.charAt(0) <= '9';
    }

    private boolean isLetter() {
        return tokens.get(at).length() == 1 && "abcd".contains(tokens.get(at));
    }

    private int value() {
        return new java.math.BigInteger(tokens.get(at)).min(java.math.BigInteger.valueOf(99999)).intValue();
    }

    private int number(int least, int most) {
        if (!isNumber()) {
            throw wrong(1);
        }
        if (value() < least || value() > most) {
            throw wrong(2);
        }
        int value = value();
        at++;
        return value;
    }

    static NaiveIdeal sound(NaiveIdeal made) {
        if (made.refusal() != 0) {
            throw new Refused(made.refusal());
        }
        return made;
    }

    static NaiveIdeal power(NaiveIdeal ideal, int n) {
        NaiveIdeal made = NaiveIdeal.whole();
        for (int k = 1; k <= n; k++) {
            made = sound(made.product(ideal));
        }
        return made;
    }

    static NaiveIdeal combine(char sign, NaiveIdeal left, NaiveIdeal right) {
        switch (sign) {
            case '+':
                return sound(left.sum(right));
            case '*':
                return sound(left.product(right));
            case '&':
                return sound(left.meet(right));
            case ':':
                return sound(left.quotient(right));
            default:
                NaiveIdeal now = left;
                while (true) {
                    NaiveIdeal next = sound(now.quotient(right));
                    if (next.like(now)) {
                        return next;
                    }
                    now = next;
                }
        }
    }

    private NaiveIdeal expr() {
        NaiveIdeal left = atom();
        while (!tokens.get(at).isEmpty() && "+*&:!".contains(tokens.get(at))) {
            char sign = tokens.get(at).charAt(0);
            at++;
            NaiveIdeal right = atom();
            left = counts ? combine(sign, left, right) : left;
        }
        return left;
    }

    private NaiveIdeal atom() {
        NaiveIdeal made = base();
        while (is("^")) {
            at++;
            int n = number(0, 9);
            made = counts ? power(made, n) : made;
        }
        return made;
    }

    private NaiveIdeal base() {
        if (is("(")) {
            return list();
        }
        if (is("#")) {
            at++;
            return places[number(0, 7)];
        }
        if (!is("r") && !is("[")) {
            throw wrong(1);
        }
        boolean root = is("r");
        if (open == 6) {
            throw wrong(4);
        }
        open++;
        at++;
        NaiveIdeal made = root ? base() : expr();
        if (!root) {
            if (!is("]")) {
                throw wrong(1);
            }
            at++;
        }
        open--;
        return root && counts ? made.radical() : made;
    }

    private NaiveIdeal list() {
        List<int[]> raw = new ArrayList<>();
        at++;
        if (!is(")")) {
            raw.add(monomial(raw.size()));
            while (is(",")) {
                at++;
                raw.add(monomial(raw.size()));
            }
            if (!is(")")) {
                throw wrong(1);
            }
        }
        at++;
        return counts ? NaiveIdeal.of(raw) : null;
    }

    private int[] monomial(int ahead) {
        boolean one = isNumber() && value() == 1;
        if (!one && !isLetter()) {
            throw wrong(1);
        }
        if (ahead == 24) {
            throw wrong(4);
        }
        int[] m = new int[4];
        if (one) {
            at++;
            return m;
        }
        while (isLetter()) {
            int v = tokens.get(at).charAt(0) - 'a';
            if (m[v] > 0) {
                throw wrong(3);
            }
            at++;
            m[v] = isNumber() ? number(1, 12) : 1;
        }
        return m;
    }
}
