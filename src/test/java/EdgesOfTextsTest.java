/** Each sentence of ==== 2. that names a boundary: each FAULT, its place, and which comes first at one TOKEN. */
public final class EdgesOfTextsTest extends Edges {
    public static void main(String[] args) {
        begin("EdgesOfTextsTest");
        lengths();
        blanks();
        allBytes();
        numbers();
        limitsOfNumbers();
        ends();
        textsInTurn();
        firstOfTheList();
        firstToken();
        letters();
        monomialsInParentheses();
        openAtOnce();
        greatIsNoFault();
        leastOnes();
        checks.finish();
    }

    private static void lengths() {
        by("A TEXT of at most 200 bytes.");
        told("(a)" + " ".repeat(195) + "^2", "(a2)");
        told("(a)^" + "0".repeat(195) + "2", "(a2)");
        told("(a)" + "+(b)".repeat(49) + "\n", "(a,b)");
        faulty("(a)" + " ".repeat(195) + "^ ", 1, 200);
        faulty("(a)" + " ".repeat(196) + ")", 1, 199);
        faulty("(a)" + " ".repeat(196) + "^", 1, 200);
        faulty("(a)^" + "0".repeat(194) + "10", 2, 4);
        faulty(" ".repeat(200), 1, 200);
        faulty("", 1, 0);
    }

    private static void blanks() {
        by("TOKENS: each byte but blanks (32, 10), which may stand anywhere between (not in a NUMBER)");
        told(" \n( a 2 ,\n\na b ) \n", "(a2,ab)");
        told(" [ r ( b 2 ) ^ 2 + # 0 ] : ( 1 )\n", "(a2,ab,b2)");
        told("\n[\nr\n(\nb\n2\n)\n^\n2\n+\n#\n0\n]\n:\n(\n1\n)\n", "(a2,ab,b2)");
        faulty("(a1 2)", 1, 4);
        faulty("(a1\n2)", 1, 4);
        faulty("(a)^0 2", 1, 6);
        faulty("#0 0", 1, 3);
        faulty("(0 1)", 1, 1);
        faulty("(1 1)", 1, 3);
    }

    /** One byte of each kind ahead of (a), behind it, and within it. */
    private static void allBytes() {
        by("1 it can't stand there");
        for (int sign = 0; sign < 256; sign++) {
            String s = String.valueOf((char) sign);
            boolean blank = sign == 32 || sign == 10;
            if (blank || sign == 'r') {
                told(s + "(a)", "(a)");
            } else {
                faulty(s + "(a)", 1, sign == '[' ? 4 : sign == '(' || sign == '#' ? 1 : 0);
            }
            if (blank) {
                told("(a)" + s, "(a)");
            } else {
                faulty("(a)" + s, 1, "^+*&:!".contains(s) ? 4 : 3);
            }
            if (blank || sign >= '1' && sign <= '9' || sign >= 'b' && sign <= 'd') {
                told("(a" + s + ")", blank || sign == '1' ? "(a)" : "(a" + s + ")");
            } else if (sign == '0' || sign == 'a') {
                faulty("(a" + s + ")", sign == '0' ? 2 : 3, 2);
            } else {
                faulty("(a" + s + ")", 1, sign == ',' || sign == ')' ? 3 : 2);
            }
        }
    }

    private static void numbers() {
        by("a NUMBER is a row of figures that stand side by side (it counts as what it is, 007 as 7)");
        told("(a007)", "(a7)");
        told("(a01b0012)", "(ab12)");
        told("(a" + "0".repeat(180) + "12)", "(a12)");
        told("(01)", "(1)");
        told("(" + "0".repeat(190) + "1)", "(1)");
        told("#007", "(c)");
        told("#" + "0".repeat(190), "(a2,ab)");
        told("(a)^009", "(a9)");
        told("(a)^000", "(1)");
        faulty("(000)", 1, 1);
        faulty("(011)", 1, 1);
        faulty("(a000)", 2, 2);
        faulty("(a0013)", 2, 2);
        faulty("#008", 2, 1);
        faulty("(a)^0010", 2, 4);
        String[] wrapped = {
            "257", "65537", "2147483649", "4294967297", "4294967298", "4294967303", "18446744073709551617",
            "340282366920938463463374607431768211457", "1" + "0".repeat(32) + "1",
        };
        for (String number : wrapped) {
            faulty("(" + number + ")", 1, 1);
            faulty("(a" + number + ")", 2, 2);
            faulty("#" + number, 2, 1);
            faulty("(a)^" + number, 2, 4);
        }
        faulty("(a" + "9".repeat(190) + ")", 2, 2);
    }

    private static void limitsOfNumbers() {
        by("(LETTER a to d; the EXPONENT, 1 to 12; 1 without)");
        for (int v = 0; v < 4; v++) {
            String x = LETTERS.substring(v, v + 1);
            told("(" + x + ")", "(" + x + ")");
            faulty("(" + x + "0)", 2, 2);
            told("(" + x + "1)", "(" + x + ")");
            told("(" + x + "2)", "(" + x + "2)");
            told("(" + x + "12)", "(" + x + "12)");
            faulty("(" + x + "13)", 2, 2);
            faulty("(" + x + "100)", 2, 2);
        }
        by("'#' NUMBER (the IDEAL of a PLACE as it was ahead of the call)");
        told("#0", "(a2,ab)");
        told("#7", "(c)");
        told("#6", "()");
        faulty("#8", 2, 1);
        faulty("#10", 2, 1);
        PrimaryParts x = with("(a)");
        due("told of itself", 3, () -> Checks.tell(x, 0, "#0^2+(b)*#0+#0^3+(bc)"));
        due("as it was ahead", "(ab,bc,a3)", () -> Checks.spoken(x, 0));
        by("ATOM: BASE ('^' NUMBER)* (POWER, 0 to 9)");
        told("(a)^0", "(1)");
        told("(a)^9", "(a9)");
        faulty("(a)^10", 2, 4);
        faulty("(a)^2^10", 2, 6);
        told("(a)^2^2^3^1", "(a12)");
    }

    private static void ends() {
        by("the end, where the text can't end: its length");
        String first = "[r(a12,b)^2+#0]";
        String second = first + "!(1)^2";
        String third = second + "&[[()]+(c, d)]";
        for (int n = 0; n < third.length(); n++) {
            String text = third.substring(0, n);
            if (text.equals(first) || text.equals(first + "!(1)") || text.equals(second)) {
                told(text, "(a2,ab,b2)");
            } else {
                faulty(text, 1, n);
                faulty(text + " ", 1, n + 1);
                faulty(text + "\n  ", 1, n + 3);
            }
        }
        told(third, "(a2c,a2d,abc,abd,b2c,b2d)");
        PrimaryParts x = new PrimaryParts();
        Checks.feed(x, "(a)+(b)");
        due("the text ends at n, not where the tape ends", -11, () -> x.tell(0, 4));
        due("its length is n", 4, x::fault);
        Checks.feed(x, "(a)^12+(b)");
        due("a NUMBER ends at n, though figures stand behind", 1, () -> x.tell(0, 5));
        due("it is 1", "(a)", () -> Checks.spoken(x, 0));
        Checks.feed(x, "(a13)");
        due("a NUMBER that would be too great", -11, () -> x.tell(0, 3));
        due("the end comes ahead of it", 3, x::fault);
    }

    /** What one text has left open must not be seen by the next. */
    private static void textsInTurn() {
        by("A TEXT of at most 200 bytes.");
        String[] broken = {
            "[[[[[[", "rrrrrr", "[r[r[r(a", "[[[[[[(a)", "(a", "(", "(a,", "(a)^", "#", "[[[[[[[",
            "(" + "a,".repeat(24) + "a",
        };
        String[] refused = {
            "[[[[[[(a7)^2]]]]]]", "rrrrr[(a7)^2]", "[(b)+[(c)*(a7)^2*(d)]]", "[[(a,b,c,d)^6]]*(a)",
            "(b)*[(a12)*(a)]+(c)",
        };
        for (int k = 0; k < broken.length + refused.length; k++) {
            boolean isBroken = k < broken.length;
            String text = isBroken ? broken[k] : refused[k - broken.length];
            PrimaryParts x = with("(a2,ab)");
            due("tell " + text, true, () -> Checks.tell(x, 1, text) < -1);
            due("then a base", 1, () -> Checks.tell(x, 1, "(d)"));
            due("what is told", "(d)", () -> Checks.spoken(x, 1));
            Checks.tell(x, 2, text);
            due("then brackets", 1, () -> Checks.tell(x, 1, "[[[[[[(c)]]]]]]"));
            due("what is told", "(c)", () -> Checks.spoken(x, 1));
            Checks.tell(x, 2, text);
            due("then roots", 1, () -> Checks.tell(x, 1, "rrrrrr(b2)&rrrrrr(c2)"));
            due("what is told", "(bc)", () -> Checks.spoken(x, 1));
            Checks.tell(x, 2, text);
            due("then a bracket that wasn't opened", -11, () -> Checks.tell(x, 1, "(c)]"));
            due("its place", 3, x::fault);
            Checks.tell(x, 2, text);
            due("then 24 of them", 1, () -> Checks.tell(x, 1, "(a" + ",a".repeat(23) + ")"));
            due("nothing else has changed", "(a2,ab)", () -> Checks.spoken(x, 0));
            due("nothing is made by it", 0, () -> x.count(2, 0));
        }
    }

    private static void firstOfTheList() {
        by("at the first TOKEN at which one of these is so it is that (the first one of this list)");
        faulty("13", 1, 0);
        faulty("(13)", 1, 1);
        faulty("(0)", 1, 1);
        faulty("(2", 1, 1);
        faulty("(1 13)", 1, 3);
        faulty("(a2 13)", 1, 4);
        faulty("(a)13", 1, 3);
        faulty("(a)^2 10", 1, 6);
        faulty("#0 8", 1, 3);
        faulty("(1a)", 1, 2);
        faulty("(1 1", 1, 3);
        faulty("(a)a", 1, 3);
        String six = "[r[r[r";
        faulty(six + "(a)r", 1, 9);
        faulty(six + "(a)[", 1, 9);
        faulty(six + "(r", 1, 7);
        faulty(six + "([", 1, 7);
        faulty(six + "#r", 1, 7);
        faulty(six + "(a)^[", 1, 10);
        String full = "(" + "a,".repeat(24);
        faulty(full + ")", 1, 49);
        faulty(full + ",", 1, 49);
        faulty(full + "2", 1, 49);
        faulty(full + "0", 1, 49);
        faulty(full + "e", 1, 49);
        faulty(full + " r", 1, 50);
        faulty(full, 1, 49);
    }

    private static void firstToken() {
        by("the text is gone through from its first byte on, TOKEN by TOKEN");
        faulty("(aa,a13,2,", 3, 2);
        faulty("(a13,aa,2,", 2, 2);
        faulty("(a,2,aa,a13", 1, 3);
        faulty("rrrrrrr(aa)", 4, 6);
        faulty("[(aa)rrrrrrr", 3, 3);
        faulty("(a)^10^", 2, 4);
        by("its place the TOKEN's first byte");
        faulty("(a  0013)", 2, 4);
        faulty("(a)^\n\n10", 2, 6);
        faulty("#   99", 2, 4);
        faulty("( a\na)", 3, 4);
        faulty("(a)  ]", 1, 5);
        faulty("rrrrrr  r(a)", 4, 8);
    }

    private static void letters() {
        by("3 a LETTER that this MONOMIAL has already");
        for (int v = 0; v < 4; v++) {
            String x = LETTERS.substring(v, v + 1);
            faulty("(" + x + x + ")", 3, 2);
            faulty("(" + x + "2" + x + ")", 3, 3);
            faulty("(" + x + "12 " + x + "13)", 3, 5);
            faulty("(dcba" + x + ")", 3, 5);
            told("(" + x + "2," + x + ")", "(" + x + ")");
            told("(" + x + ")*(" + x + ")", "(" + x + "2)");
        }
        told("(abcd,dcba)", "(abcd)");
    }

    private static void monomialsInParentheses() {
        by("4 the 25th MONOMIAL's first TOKEN within one pair of parentheses");
        String all = "(a" + ",a".repeat(23);
        told(all + ")", "(a)");
        faulty(all + ",a)", 4, 49);
        faulty(all + ",1)", 4, 49);
        faulty(all + ", 001)", 4, 50);
        faulty(all + ",aa", 4, 49);
        faulty(all + "a)", 3, 48);
        told("(1" + ",1".repeat(23) + ")", "(1)");
        faulty("(1" + ",1".repeat(23) + ",b)", 4, 49);
        told("(a2b" + ",a2b".repeat(22) + ",c)", "(c,a2b)");
        faulty("(a2b" + ",a2b".repeat(23) + ",c)", 4, 97);
        told(all + ")+" + all + ")", "(a)");
        faulty(all + ")+" + all + ",a)", 4, 99);
        told("[" + all + ")]*r" + all + ")^2", "(a3)");
    }

    private static void openAtOnce() {
        by("the 7th of 'r', '[' that are open at once ('r' till its BASE ends)");
        for (int kinds = 0; kinds < 128; kinds++) {
            StringBuilder heads = new StringBuilder();
            StringBuilder tails = new StringBuilder();
            for (int k = 0; k < 6; k++) {
                boolean root = (kinds >> k & 1) != 0;
                heads.append(root ? 'r' : '[');
                tails.append(root ? "" : "]");
            }
            String fine = heads + "(ab)" + tails;
            if (kinds < 64) {
                told(fine, "(ab)");
                told(fine + "*" + fine, "(a2b2)");
                told(heads + "#7" + tails, "(c)");
            }
            faulty(heads + (kinds >= 64 ? "r" : "[") + "(ab)" + tails, 4, 6);
        }
        told("[[[[[(a)+[(b)]+r(c)]]]]]", "(a,b,c)");
        faulty("[[[[[(a)+[(b)]+r[(c)]]]]]]", 4, 16);
        faulty("[[[[[[(a)+r(b)]]]]]]", 4, 10);
        told("rrrrrr(a)^2+rrrrrr(b)", "(b,a2)");
        told("r[rrrr(a)+rrrr(b)]+rrrrrr(c)", "(a,b,c)");
        faulty("r[rrrr(a)+rrrrr(b)]", 4, 14);
        told("[[[[[[(a)]]]]]]+[[[[[[(b)]]]]]]", "(a,b)");
        faulty("[[[[[[(a)]]]]]]+[[[[[[[(b)]]]]]]]", 4, 22);
    }

    private static void greatIsNoFault() {
        by("What is GREAT or MANY is no FAULT (it is looked for when all is read).");
        refused(GREAT_ATOM, GREAT);
        refused(MANY_ATOM, MANY);
        faulty(GREAT_ATOM + "+(aa)", 3, 9);
        faulty(MANY_ATOM + "]", 1, 11);
        faulty(MANY_ATOM + "+#8", 2, 13);
        faulty(GREAT_ATOM + "*rrrrrrr(a)", 4, 13);
        faulty(GREAT_ATOM + "+", 1, 7);
    }

    private static void leastOnes() {
        by("(the least IDEAL that has these)");
        told("()", "()");
        told("(a2,a)", "(a)");
        told("(a,a2,a3,1)", "(1)");
    }
}
