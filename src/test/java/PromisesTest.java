import java.lang.reflect.Modifier;

/** Each promise of the document, by its number: ordinary inputs, its edges, wrong inputs. */
public final class PromisesTest {
    private static final int MIN = Integer.MIN_VALUE;
    private static final int MAX = Integer.MAX_VALUE;
    private static final Checks CHECKS = new Checks("PromisesTest");

    public static void main(String[] args) {
        face();
        promise1();
        promise2();
        promise3();
        promise3Faults();
        promise3Signs();
        promise3Refusals();
        promise4();
        promise5();
        promise5None();
        promise5Refusals();
        promise6();
        promise7();
        promise8();
        promise9();
        promise10();
        promise11();
        promise12();
        promise13();
        promise14();
        promise15();
        promise16();
        promise17();
        promise18();
        promise19();
        promise20();
        promise21();
        promise22();
        promise23();
        promise24();
        CHECKS.finish();
    }

    private static PrimaryParts with(String... texts) {
        PrimaryParts x = new PrimaryParts();
        for (int k = 0; k < texts.length; k++) {
            Checks.tell(x, k, texts[k]);
        }
        return x;
    }

    private static void due(String what, Object want, Checks.Call call) {
        CHECKS.due(what, want, call);
    }

    private static void noSuch(String what, Checks.Call call) {
        CHECKS.noSuch(what, call);
    }

    private static void illegal(String what, Checks.Call call) {
        CHECKS.illegal(what, call);
    }

    /** A text is told into place 1 of an object whose place 0 has (a2,ab). */
    private static void told(String text, String want) {
        PrimaryParts x = with("(a2,ab)");
        due("tell " + text + " has generators", true, () -> Checks.tell(x, 1, text) >= 0);
        due("tell " + text, want, () -> Checks.spoken(x, 1));
        due("fault behind " + text, -1, x::fault);
    }

    private static void faulty(String text, int kind, int place) {
        PrimaryParts x = with("(a2,ab)");
        due("tell " + text, -10 - kind, () -> Checks.tell(x, 0, text));
        due("fault of " + text, place, x::fault);
        due("place behind " + text, "(a2,ab)", () -> Checks.spoken(x, 0));
        due("acts behind " + text, 0, x::undo);
    }

    private static void refused(String text, int why) {
        PrimaryParts x = with("(a2,ab)");
        due("tell " + text, why, () -> Checks.tell(x, 0, text));
        due("fault of " + text, -1, x::fault);
        due("place behind " + text, "(a2,ab)", () -> Checks.spoken(x, 0));
        due("acts behind " + text, 0, x::undo);
    }

    private static void face() {
        due("NONE", -1, () -> PrimaryParts.NONE);
        due("the class is public and final", true, () -> Modifier.isFinal(PrimaryParts.class.getModifiers())
            && Modifier.isPublic(PrimaryParts.class.getModifiers()));
        due("methods", 23L, () -> java.util.Arrays.stream(PrimaryParts.class.getDeclaredMethods())
            .filter(m -> !Modifier.isPrivate(m.getModifiers())).count());
        due("fields", 1L, () -> java.util.Arrays.stream(PrimaryParts.class.getDeclaredFields())
            .filter(f -> !Modifier.isPrivate(f.getModifiers())).count());
        due("constructors", 1, () -> PrimaryParts.class.getDeclaredConstructors().length);
    }

    private static void promise1() {
        PrimaryParts x = new PrimaryParts();
        for (int k = 0; k < 8; k++) {
            int place = k;
            due("new: generators of " + k, 0, () -> x.count(place, 0));
            due("new: has 1", false, () -> x.has(place, 0, 0, 0, 0));
            due("new: said", "()", () -> Checks.spoken(x, place));
        }
        PrimaryParts y = new PrimaryParts();
        due("new: fault", -1, y::fault);
        due("new: undo", -1, y::undo);
        due("new: back", false, y::back);
        due("new: said", -1, () -> y.said(0));
        due("new: image", 0, y::image);
        illegal("new: tell of a byte", () -> y.tell(0, 1));
        PrimaryParts z = with("(a)");
        due("objects share nothing", 0, () -> y.count(0, 0));
        due("objects share nothing", 1, () -> z.count(0, 0));
    }

    private static void promise2() {
        PrimaryParts x = new PrimaryParts();
        for (int k = 1; k <= 10; k++) {
            due("feed " + k, 20 * k, () -> x.feed(0x2861322c, 0x61622920, 0x20202020, 0x20202020, 0x20202020));
        }
        due("feed beyond 200", -1, () -> x.feed(0x31313131, 0x31313131, 0x31313131, 0x31313131, 0x31313131));
        due("feed beyond 200 again", -1, () -> x.feed(0, 0, 0, 0, 0));
        due("the tape is as it was", 2, () -> x.tell(0, 20));
        due("said", "(a2,ab)", () -> Checks.spoken(x, 0));
        due("feed on an empty tape", 20, () -> x.feed(0x2862292b, 0x2864292b, 0x2863292b, 0x28612962, 0xe9ff8000));
        due("feed behind", 40, () -> x.feed(0x20202020, 0x20202020, 0x20202020, 0x20202020, 0x20202020));
        due("the bytes' order", 3, () -> Checks.answerOf(() -> x.tell(1, 11)));
        due("said", "(b,c,d)", () -> Checks.spoken(x, 1));
    }

    private static void promise3() {
        told("()", "()");
        told("(1)", "(1)");
        told("(001)", "(1)");
        told("(1,a)", "(1)");
        told("(a)", "(a)");
        told("(a1b01c002d12)", "(abc2d12)");
        told("(dcba)", "(abcd)");
        told("(a2b,ab,b3,b3)", "(ab,b3)");
        told(" (\n a 2 , a\nb ) ", "(a2,ab)");
        told("(d,c,b,a)", "(a,b,c,d)");
        told("(d2,cd,c2,bd,bc,b2,ad,ac,ab,a2)", "(a2,ab,ac,ad,b2,bc,bd,c2,cd,d2)");
        told("#0", "(a2,ab)");
        told("# 0", "(a2,ab)");
        told("#00", "(a2,ab)");
        told("#7", "()");
        told("#1", "()");
        told("#1+(c)", "(c)");
        told("(a)^ 2", "(a2)");
        told("r#0", "(a)");
        told("r#0^2", "(a2)");
        told("r[#0^2]", "(a)");
        told("rrrrrr(a2)", "(a)");
        told("[[[[[[(a)]]]]]]", "(a)");
        told("[[r[r[(a3b2)]]]]", "(ab)");
        told("rrrrrr(a2)+rrrrrr(b2)", "(a,b)");
        told("r[(a2)]+[r(b2)]", "(a,b)");
        told("(a,a,a,a,a,a,a,a,a,a,a,a,a,a,a,a,a,a,a,a,a,a,a,a)", "(a)");
        PrimaryParts x = with("(a)");
        due("tell changes its own place behind", 1, () -> Checks.tell(x, 0, "#0*#0+#0^3"));
        due("said", "(a2)", () -> Checks.spoken(x, 0));
        Checks.feed(x, "(a,b,c)   and what isn't told");
        due("only the first n bytes", 3, () -> x.tell(2, 7));
        illegal("the tape is empty then", () -> x.tell(2, 1));
        Checks.feed(x, "(a,b");
        due("a fault", -11, () -> x.tell(2, 20));
        illegal("the tape is empty then too", () -> x.tell(2, 1));
        Checks.feed(x, "(a7)^2");
        due("great", -2, () -> x.tell(2, 6));
        illegal("the tape is empty then too", () -> x.tell(2, 1));
        promise3Wrong();
    }

    private static void promise3Wrong() {
        PrimaryParts x = with("(a2,ab)");
        Checks.feed(x, "(b,c,d)");
        illegal("place -1", () -> x.tell(-1, 7));
        illegal("place 8", () -> x.tell(8, 7));
        illegal("place MIN", () -> x.tell(MIN, 7));
        illegal("place MAX", () -> x.tell(MAX, 7));
        illegal("n -1", () -> x.tell(0, -1));
        illegal("n MIN", () -> x.tell(0, MIN));
        illegal("n 21", () -> x.tell(0, 21));
        illegal("n MAX", () -> x.tell(0, MAX));
        illegal("both", () -> x.tell(9, 22));
        illegal("no such place ahead of a fault", () -> x.tell(8, 3));
        due("nothing changed", "(a2,ab)", () -> Checks.spoken(x, 0));
        due("the tape is as it was", 3, () -> x.tell(3, 20));
        due("said", "(b,c,d)", () -> Checks.spoken(x, 3));
        due("acts", 1, x::undo);
        PrimaryParts y = new PrimaryParts();
        due("a text of no bytes", -11, () -> y.tell(0, 0));
        due("its end", 0, y::fault);
        String longest = "(a)+(b)" + " ".repeat(192) + "\n";
        due("200 bytes", 2, () -> Checks.tell(y, 7, longest));
        String last = "(a)+(b)" + " ".repeat(192) + ")";
        due("200 bytes", -11, () -> Checks.tell(y, 7, last));
        due("the last one", 199, y::fault);
    }

    private static void promise3Faults() {
        faulty("", 1, 0);
        faulty("   ", 1, 3);
        faulty("(", 1, 1);
        faulty("( ", 1, 2);
        faulty("(a", 1, 2);
        faulty("(a2", 1, 3);
        faulty("(1", 1, 2);
        faulty("(a,", 1, 3);
        faulty("#", 1, 1);
        faulty("r", 1, 1);
        faulty("[", 1, 1);
        faulty("[(a)", 1, 4);
        faulty("(a)^", 1, 4);
        faulty("(a)+", 1, 4);
        faulty("(a)+ \n", 1, 6);
        faulty(")", 1, 0);
        faulty("]", 1, 0);
        faulty("(a)]", 1, 3);
        faulty("[(a)]]", 1, 5);
        faulty("[]", 1, 1);
        faulty("(a))", 1, 3);
        faulty("(a)(b)", 1, 3);
        faulty("(a)#0", 1, 3);
        faulty("(a) 2", 1, 4);
        faulty("a", 1, 0);
        faulty("1", 1, 0);
        faulty("^2", 1, 0);
        faulty("+(a)", 1, 0);
        faulty("(a)++(b)", 1, 4);
        faulty("(,a)", 1, 1);
        faulty("(a,)", 1, 3);
        faulty("(a,,b)", 1, 3);
        faulty("(a+b)", 1, 2);
        faulty("(2)", 1, 1);
        faulty("(0)", 1, 1);
        faulty("(11)", 1, 1);
        faulty("(a,10)", 1, 3);
        faulty("(1a)", 1, 2);
        faulty("(1 1)", 1, 3);
        faulty("(a1)2", 1, 4);
        faulty("(a2 3)", 1, 4);
        faulty("(a 2 3)", 1, 5);
        faulty("(e)", 1, 1);
        faulty("(A)", 1, 1);
        faulty("(ae)", 1, 2);
        faulty("#a", 1, 1);
        faulty("# #", 1, 2);
        faulty("(a)^(b)", 1, 4);
        faulty("(a)^^2", 1, 4);
        faulty("r+(a)", 1, 1);
        faulty("r^2", 1, 1);
        faulty("(a)r", 1, 3);
        faulty("(a)[", 1, 3);
        faulty("(a)-(b)", 1, 3);
        faulty("\t(a)", 1, 0);
        faulty("\r(a)", 1, 0);
        faulty("(a)\u0000", 1, 3);
        faulty("(\u00e1)", 1, 1);
        faultyNumbers();
        faultyRest();
    }

    private static void faultyNumbers() {
        faulty("(a0)", 2, 2);
        faulty("(a13)", 2, 2);
        faulty("(a00)", 2, 2);
        faulty("(a 013)", 2, 3);
        faulty("(a99999999999999999999)", 2, 2);
        faulty("(a4294967297)", 2, 2);
        faulty("(ab2c0)", 2, 5);
        faulty("#8", 2, 1);
        faulty("#10", 2, 1);
        faulty("#4294967296", 2, 1);
        faulty("(a)^10", 2, 4);
        faulty("(a)^ 4294967296", 2, 5);
        faulty("(a)^2^12", 2, 6);
        faulty("(a13", 2, 2);
        faulty("(a13,a13)+", 2, 2);
        faulty("(a7)^2+(a0)", 2, 9);
    }

    private static void faultyRest() {
        faulty("(aa)", 3, 2);
        faulty("(a2a)", 3, 3);
        faulty("(abca)", 3, 4);
        faulty("(ab,ab,cdc)", 3, 9);
        faulty("(aa13)", 3, 2);
        told("(a,a)", "(a)");
        String many = "(a,a,a,a,a,a,a,a,a,a,a,a,a,a,a,a,a,a,a,a,a,a,a,a";
        faulty(many + ",a)", 4, 49);
        faulty(many + ",1)", 4, 49);
        faulty(many + ", 01)", 4, 50);
        faulty(many + ",2)", 1, 49);
        faulty(many + ",)", 1, 49);
        faulty(many + ",#)", 1, 49);
        told(many + ")+" + many + ")", "(a)");
        faulty("rrrrrrr(a)", 4, 6);
        faulty("[[[[[[[(a)]]]]]]]", 4, 6);
        faulty("[r[r[r[(a)]]]]", 4, 6);
        faulty("[r[r[rr(a)", 4, 6);
        faulty("[[[[[r(a)+rr(b)]]]]]", 4, 11);
        faulty("(a)r[[[[[[[", 1, 3);
        told("[[[[[r(a2)+r(b2)]]]]]", "(a,b)");
        told("r[r[r[(a2)+(b3)]]]", "(a,b)");
        told("r[r[r[(a2)]]+[[(b2)]]]", "(a,b)");
        faulty("r[r[rr[(a2)]]+[[(b2)]]]", 4, 6);
        faulty("r[r[r[(a2)+r(b3)]]]", 4, 11);
        faulty("rrrrr[[(a)]]", 4, 6);
        told("rrrrr[(a2)]", "(a)");
    }

    private static void promise3Signs() {
        told("(a)+(b)", "(a,b)");
        told("(a)*(b)", "(ab)");
        told("(a2,b)&(a,b2)", "(a2,ab,b2)");
        told("(a2,ab):(a)", "(a,b)");
        told("(a3b,c):(a)", "(c,a2b)");
        told("(a3b,c)!(a)", "(b,c)");
        told("(a2,ab)!(a,b)", "(a)");
        told("(a):()", "(1)");
        told("():()", "(1)");
        told("()!()", "(1)");
        told("():(a)", "()");
        told("()!(a)", "()");
        told("(a):(1)", "(a)");
        told("(a):(a)", "(1)");
        told("(1):(a)", "(1)");
        told("()*(a)", "()");
        told("()&(a)", "()");
        told("()+()", "()");
        told("(1)*(a)", "(a)");
        told("(1)&(a)", "(a)");
        told("(1)+(a)", "(1)");
        told("(a)+(b)*(c)", "(ac,bc)");
        told("(a)+[(b)*(c)]", "(a,bc)");
        told("(a)*(b)+(c)", "(c,ab)");
        told("(a)+(b)^2", "(a,b2)");
        told("[(a)+(b)]^2", "(a2,ab,b2)");
        told("(a,b)^0", "(1)");
        told("()^0", "(1)");
        told("()^1", "()");
        told("()^9", "()");
        told("(a,b)^1", "(a,b)");
        told("(a)^2^3", "(a6)");
        told("(a)^9", "(a9)");
        told("(a)^3^4", "(a12)");
        told("r(a2b,c3)", "(c,ab)");
        told("r()", "()");
        told("r(1)", "(1)");
        told("(a2b2):(a):(b)", "(ab)");
        told("(a4b2,b3)!(a):(b)", "(b)");
        told("(a,b)*(a,b):(a)&(b)", "(b)");
    }

    private static void promise3Refusals() {
        refused("(a12)*(a)", -2);
        refused("(a7)^2", -2);
        refused("(a7)^2:(a7)", -2);
        refused("(1)+(a7)^2", -2);
        refused("r[(a7)*(a6)]", -2);
        refused("(a,b,c,d)^6", -3);
        refused("(a,b,c,d)^9", -3);
        refused("(a,b,c,d)^5*(a,b,c,d)", -3);
        refused("(a4,b4,c4,d4)^5", -2);
        refused("(a12,b12,c12,d12)*(a,b,c,d)", -2);
        refused("(a,b,c,d)^6*(a7)^2", -3);
        refused("(a7)^2*(a,b,c,d)^6", -2);
        refused("(a)+[(a,b,c,d)^6]", -3);
        refused("[(a,b,c,d)^5*(a,b,c,d)]+[(a7)^2]", -3);
        refused("(a7)^3^0", -2);
        told("(a7)^0^3", "(1)");
        told("(a12)*(1)", "(a12)");
        told("(a6)^2", "(a12)");
        refused("(a12,b12)*(b,c12)", -2);
        told("(a8b,a3c)*(a8c,a3b)", "(a6bc,a11b2,a11c2)");
        told("(a8b,a3c)*(a8c,a3b)!(a)", "(b2,bc,c2)");
        due("60 generators", 60, () -> Checks.tell(new PrimaryParts(), 0, SIXTY));
        refused(SIXTY + "+(d12)", -3);
        refused(MANY_ON_THE_WAY + "!(a,b,c,d)", -3);
        refused(MANY_QUOTIENT + ":(ab,cd)", -3);
        refused(MANY_QUOTIENT + ":(ab,cd)+[(a7)^2]", -3);
        due("two quotients are not many", 46, () ->
            Checks.tell(new PrimaryParts(), 0, MANY_ON_THE_WAY + ":(a,b,c,d):(a,b,c,d)"));
        due("the saturation itself has six", 6, () ->
            Checks.tell(new PrimaryParts(), 0, MANY_ON_THE_WAY + "!(c)"));
        due("56 generators", 56, () -> Checks.tell(new PrimaryParts(), 0, "(a,b,c,d)^5"));
    }

    /** Sixty generators: (a,b,c)^8 has 45, and fifteen more of lesser degree in d's company. */
    private static final String SIXTY = "(a,b,c)^8+[(a,b,c)^4*(d)]";

    /** Its part by all variables has more than sixty generators, it has 54 itself. */
    private static final String MANY_PART =
        "(b5,b3c2d,c6,a4c3,b4cd2,a3b4c,a6b3,a5bd3,a3b3c3,c4d5,ab3cd5)^2";

    /** Its third quotient by (a,b,c,d) has more than sixty generators, its saturation has six. */
    private static final String MANY_ON_THE_WAY = "(a2,b4,d5,b3c5,c6d2)^2";

    /** Its quotient by (ab,cd) has more than sixty generators, it has 27 itself. */
    private static final String MANY_QUOTIENT = "(b2c,c4,a6,c2d4,ad6,bd6,a4d4)^2";

    private static void promise4() {
        PrimaryParts x = new PrimaryParts();
        due("fault ahead of all", -1, x::fault);
        Checks.tell(x, 0, "(a,b");
        due("fault", 4, x::fault);
        due("fault again", 4, x::fault);
        illegal("no such place", () -> x.tell(8, 0));
        illegal("not so many", () -> x.tell(0, 1));
        due("an exception doesn't change it", 4, x::fault);
        x.feed(0, 0, 0, 0, 0);
        x.undo();
        x.make(0, 0, 0, 0);
        due("other calls don't change it", 4, x::fault);
        due("a byte 0", -11, () -> x.tell(0, 20));
        due("its place", 0, x::fault);
        Checks.tell(x, 0, "(a)+  (a13)");
        due("the token's first byte", 8, x::fault);
        Checks.tell(x, 0, "(a7)^2");
        due("great is no fault", -1, x::fault);
        Checks.tell(x, 0, "(aa)");
        due("a letter again", 2, x::fault);
        Checks.tell(x, 0, "(a,b,c,d)^6");
        due("many is no fault", -1, x::fault);
        Checks.tell(x, 0, "(a)^  0012");
        due("a number's first figure", 6, x::fault);
        Checks.tell(x, 0, "(a)");
        due("no fault", -1, x::fault);
        Checks.tell(x, 0, "(a)+  ");
        due("the end with blanks", 6, x::fault);
    }

    private static void makes(PrimaryParts x, int how, int i, int j, String want) {
        due("make " + how + " " + i + " " + j, true, () -> x.make(7, how, i, j) >= 0);
        due("made " + how + " " + i + " " + j, want, () -> Checks.spoken(x, 7));
    }

    private static void promise5() {
        PrimaryParts x = with("(a2,ab)", "(a,b)", "(ab,cd)", "(a3b,a2c2)", "()", "(1)", "(a2,ab2,b3c)");
        makes(x, 0, 1, 2, "(a,b,cd)");
        makes(x, 1, 1, 2, "(a2b,ab2,acd,bcd)");
        makes(x, 2, 1, 2, "(ab,acd,bcd)");
        makes(x, 3, 0, 1, "(a)");
        makes(x, 3, 3, 3, "(1)");
        makes(x, 4, 0, 1, "(a)");
        makes(x, 4, 3, 1, "(a3b,a2c2)");
        makes(x, 4, 6, 1, "(a,c)");
        makes(x, 5, 3, 99, "(ab,ac)");
        makes(x, 5, 3, -1, "(ab,ac)");
        makes(x, 6, 1, 0, "(1)");
        makes(x, 6, 1, 1, "(a,b)");
        makes(x, 6, 1, 3, "(a3,a2b,ab2,b3)");
        makes(x, 6, 4, 0, "(1)");
        makes(x, 6, 4, 9, "()");
        makes(x, 6, 5, 9, "(1)");
        makes(x, 7, 0, 0, "(a)");
        makes(x, 7, 0, 1, "(b,a2)");
        makes(x, 7, 2, 0, "(a,c)");
        makes(x, 7, 2, 3, "(b,d)");
        makes(x, 7, 4, 0, "()");
        makes(x, 8, 0, 0, "(a)");
        makes(x, 8, 0, 1, "(b,a2)");
        makes(x, 8, 4, 0, "()");
        makes(x, 9, 0, 1, "(a,b)");
        makes(x, 9, 4, 0, "()");
        makes(x, 10, 3, 0, "(a3b,a2c2)");
        makes(x, 10, 3, 1, "(b,c2)");
        makes(x, 10, 3, 2, "(a3,a2c2)");
        makes(x, 10, 3, 15, "(1)");
        makes(x, 10, 4, 15, "()");
        makes(x, 10, 2, 8, "(c,ab)");
        makes(x, 11, 2, 3, "(ab)");
        makes(x, 11, 2, 12, "(cd)");
        makes(x, 11, 2, 0, "()");
        makes(x, 11, 2, 15, "(ab,cd)");
        makes(x, 11, 5, 0, "(1)");
        makes(x, 12, 0, -5, "(a)");
        makes(x, 12, 4, 0, "()");
        makes(x, 12, 5, 0, "(1)");
        makes(x, 12, 2, MAX, "(ab,cd)");
        promise5Deep();
    }

    private static void promise5Deep() {
        PrimaryParts x = with("(ab,bc,ac)", "(a2,ab)", "()", "(1)", "(a,b)");
        makes(x, 13, 0, 0, "(1)");
        makes(x, 13, 0, 1, "(ab,ac,bc)");
        makes(x, 13, 0, 2, "(abc,a2b2,a2c2,b2c2)");
        makes(x, 6, 0, 2, "(a2b2,a2bc,a2c2,ab2c,abc2,b2c2)");
        makes(x, 13, 1, 1, "(a)");
        makes(x, 13, 1, 3, "(a3)");
        makes(x, 13, 2, 0, "(1)");
        makes(x, 13, 2, 4, "()");
        makes(x, 13, 3, 7, "(1)");
        makes(x, 13, 4, 2, "(a2,ab,b2)");
        due("a place may be its own source", 5, () -> x.make(0, 1, 0, 4));
        due("made there", "(a2b,a2c,ab2,abc,b2c)", () -> Checks.spoken(x, 0));
        due("both sources may be it", 3, () -> x.make(4, 1, 4, 4));
        due("made there", "(a2,ab,b2)", () -> Checks.spoken(x, 4));
    }

    private static void promise5None() {
        PrimaryParts x = with("(a2,ab)", "(a7)", "(1)");
        int[] places = {-1, 8, MIN, MAX};
        for (int bad : places) {
            for (int how = 0; how <= 13; how++) {
                int h = how;
                due("place " + bad + " how " + how, -1, () -> x.make(bad, h, 0, 0));
                due("source " + bad + " how " + how, -1, () -> x.make(0, h, bad, 0));
            }
            for (int how = 0; how < 5; how++) {
                int h = how;
                due("second source " + bad + " how " + how, -1, () -> x.make(0, h, 0, bad));
            }
        }
        int[][] wrong = {
            {-1, 0}, {14, 0}, {MIN, 0}, {MAX, 0}, {6, -1}, {6, 10}, {6, MIN}, {6, MAX}, {13, -1}, {13, 10}, {13, MIN},
            {13, MAX}, {7, -1}, {7, 2}, {7, MIN}, {7, MAX}, {8, -1}, {8, 2}, {8, MIN}, {8, MAX}, {9, -1}, {9, 2},
            {9, MIN}, {9, MAX}, {10, -1}, {10, 16}, {10, MIN}, {10, MAX}, {11, -1}, {11, 16}, {11, MIN}, {11, MAX},
        };
        for (int[] row : wrong) {
            due("how " + row[0] + " number " + row[1], -1, () -> x.make(0, row[0], 0, row[1]));
        }
        due("no part of a whole one", -1, () -> x.make(0, 7, 2, 0));
        due("no irreducible one of a whole one", -1, () -> x.make(0, 8, 2, 0));
        due("no prime of a whole one", -1, () -> x.make(0, 9, 2, 0));
        due("ahead of great: place", -1, () -> x.make(8, 1, 1, 1));
        due("ahead of great: power", -1, () -> x.make(0, 6, 1, 10));
        due("nothing changed", "(a2,ab)", () -> Checks.spoken(x, 0));
        due("no acts", 2, x::undo);
    }

    private static void promise5Refusals() {
        PrimaryParts x = with("(a7)", "(a,b,c,d)^5", "(a,b,c,d)", SIXTY, "(d12)", "(a,b)^9", "(c,d)^9", "(b)");
        int[][] rows = {
            {1, 0, 0, -2}, {6, 0, 2, -2}, {6, 0, 9, -2}, {13, 0, 2, -2}, {1, 1, 2, -3}, {6, 2, 6, -3}, {13, 2, 6, -3},
            {13, 2, 9, -3}, {0, 3, 4, -3}, {2, 5, 6, -3}, {1, 5, 6, -3}, {6, 1, 2, -3}, {1, 3, 4, -2},
        };
        for (int[] row : rows) {
            due("make " + row[0] + " " + row[1] + " " + row[2], row[3], () -> x.make(7, row[0], row[1], row[2]));
        }
        due("nothing changed", "(b)", () -> Checks.spoken(x, 7));
        due("no acts", 7, x::undo);
        PrimaryParts y = with("(a12,b12,c12,d12)", "(a,b,c,d)^5", MANY_ON_THE_WAY, "(a,b,c,d)", MANY_QUOTIENT, "(ab,cd)");
        due("great ahead of many, though both", -2, () -> y.make(0, 1, 1, 0));
        due("many on the way to a saturation", -3, () -> y.make(0, 4, 2, 3));
        due("many in a quotient", -3, () -> y.make(0, 3, 4, 5));
        due("nothing changed", "(a12,b12,c12,d12)", () -> Checks.spoken(y, 0));
        due("no acts", 5, y::undo);
    }

    private static void promise6() {
        PrimaryParts x = with("(a2,ab)", "()", "(1)", "(a,b)^9+(c,d)^9", "(a12b12c12d12)", "(ab,cd)");
        due("dual", 2, () -> x.dual(7, 0, 2, 1, 0, 0));
        due("made", "(a2,ab)", () -> Checks.spoken(x, 7));
        due("dual in a wider box", 2, () -> x.dual(7, 0, 3, 3, 3, 3));
        due("made", "(a3,a2b3)", () -> Checks.spoken(x, 7));
        due("dual of it again", 2, () -> x.dual(7, 7, 3, 3, 3, 3));
        due("made", "(a2,ab)", () -> Checks.spoken(x, 7));
        due("dual of EMPTY", 1, () -> x.dual(7, 1, 0, 0, 0, 0));
        due("made", "(1)", () -> Checks.spoken(x, 7));
        due("dual of WHOLE", 0, () -> x.dual(7, 2, 12, 0, 0, 0));
        due("made", "()", () -> Checks.spoken(x, 7));
        due("dual of squares", 4, () -> x.dual(7, 5, 1, 1, 1, 1));
        due("made", "(ac,ad,bc,bd)", () -> Checks.spoken(x, 7));
        due("dual at the limit", 4, () -> x.dual(7, 4, 12, 12, 12, 12));
        due("made", "(a,b,c,d)", () -> Checks.spoken(x, 7));
        due("many", -3, () -> x.dual(7, 3, 9, 9, 9, 9));
        due("many changes nothing", "(a,b,c,d)", () -> Checks.spoken(x, 7));
        promise6None(x);
    }

    private static void promise6None(PrimaryParts x) {
        due("acts so far", 12, x::undo);
        for (int bad : new int[] {-1, 8, MIN, MAX}) {
            due("place " + bad, -1, () -> x.dual(bad, 0, 3, 3, 3, 3));
            due("source " + bad, -1, () -> x.dual(0, bad, 3, 3, 3, 3));
        }
        for (int bad : new int[] {-1, 13, MIN, MAX}) {
            due("box a " + bad, -1, () -> x.dual(0, 1, bad, 3, 3, 3));
            due("box b " + bad, -1, () -> x.dual(0, 1, 3, bad, 3, 3));
            due("box c " + bad, -1, () -> x.dual(0, 1, 3, 3, bad, 3));
            due("box d " + bad, -1, () -> x.dual(0, 1, 3, 3, 3, bad));
        }
        due("a2 doesn't divide", -1, () -> x.dual(0, 0, 1, 1, 1, 1));
        due("ab doesn't divide", -1, () -> x.dual(0, 0, 2, 0, 1, 1));
        due("a generator of many ahead of many", -1, () -> x.dual(0, 3, 9, 9, 9, 8));
        due("no place ahead of many", -1, () -> x.dual(8, 3, 9, 9, 9, 9));
        due("nothing changed", "(a2,ab)", () -> Checks.spoken(x, 0));
    }

    private static void counts(String text, int... due) {
        PrimaryParts x = with(text);
        for (int k = 0; k < due.length; k++) {
            int what = k;
            due("count " + k + " of " + text, due[k], () -> x.count(0, what));
        }
    }

    private static void promise7() {
        counts("()", 0, 0, 1, 1, 0, 1, 1, -1, 1, 1, 1, -1);
        counts("(1)", 1, 4, 0, 0, 0, 0, 0, 0, 1, 0, 0, 0);
        counts("(a2,ab)", 2, 1, 1, 2, 1, 2, 2, -1, 0, 0, 0, 2);
        counts("(a2,b3,c,d2)", 4, 4, 12, 1, 0, 1, 12, 12, 0, 1, 1, 3);
        counts("(ab,cd)", 2, 2, 4, 4, 0, 4, 4, -1, 1, 0, 0, 2);
        counts("(a,b)^2", 3, 2, 3, 1, 0, 2, 3, -1, 0, 1, 0, 2);
        counts("(a,b)^2&(c)", 3, 1, 1, 2, 0, 3, 4, -1, 0, 0, 0, 3);
        counts("(a,b,c,d)", 4, 4, 1, 1, 0, 1, 1, 1, 1, 1, 1, 1);
        counts("(a12,b12,c12,d12)", 4, 4, 20736, 1, 0, 1, 20736, 20736, 0, 1, 1, 12);
        counts("(a12b12c12d12)", 1, 1, 48, 4, 0, 4, 48, -1, 0, 0, 0, 48);
        counts("(a)&(a2,b)&(a3,b2,c)&(a4,b3,c2,d)", 8, 1, 1, 4, 3, 4, 18, -1, 0, 0, 0, 4);
        PrimaryParts x = with("(a)");
        for (int bad : new int[] {-1, 12, MIN, MAX}) {
            noSuch("count " + bad, () -> x.count(0, bad));
        }
        for (int bad : new int[] {-1, 8, MIN, MAX}) {
            noSuch("count of place " + bad, () -> x.count(bad, 0));
        }
    }

    private static void promise8() {
        PrimaryParts x = with("(d12,ab,a2b,a3)", "(1)");
        int[][] due = {{1, 1, 0, 0}, {3, 0, 0, 0}, {0, 0, 0, 12}};
        for (int i = 0; i < 3; i++) {
            for (int v = 0; v < 4; v++) {
                int k = i;
                int variable = v;
                due("generator " + i + " " + v, due[i][v], () -> x.generator(0, k, variable));
            }
        }
        due("generator 1", 0, () -> x.generator(1, 0, 3));
        for (int bad : new int[] {-1, 8, MIN, MAX}) {
            noSuch("place " + bad, () -> x.generator(bad, 0, 0));
        }
        for (int bad : new int[] {-1, 3, MIN, MAX}) {
            noSuch("generator " + bad, () -> x.generator(0, bad, 0));
        }
        for (int bad : new int[] {-1, 4, MIN, MAX}) {
            noSuch("variable " + bad, () -> x.generator(0, 0, bad));
        }
        noSuch("an EMPTY one", () -> x.generator(2, 0, 0));
    }

    private static void promise9() {
        PrimaryParts x = with("(a2b,c12d)", "(1)", "()");
        due("itself", true, () -> x.has(0, 2, 1, 0, 0));
        due("a multiple", true, () -> x.has(0, 5, 1, 0, 3));
        due("far off", true, () -> x.has(0, MAX, MAX, MAX, MAX));
        due("the other one", true, () -> x.has(0, 0, 0, 12, 1));
        due("less", false, () -> x.has(0, 1, MAX, 11, MAX));
        due("without d", false, () -> x.has(0, 1, MAX, MAX, 0));
        due("1", false, () -> x.has(0, 0, 0, 0, 0));
        due("1 of WHOLE", true, () -> x.has(1, 0, 0, 0, 0));
        due("of EMPTY", false, () -> x.has(2, MAX, MAX, MAX, MAX));
        for (int bad : new int[] {-1, 8, MIN, MAX}) {
            noSuch("place " + bad, () -> x.has(bad, 0, 0, 0, 0));
            noSuch("place ahead of exponents " + bad, () -> x.has(bad, -1, -1, -1, -1));
        }
        for (int bad : new int[] {-1, MIN}) {
            illegal("a " + bad, () -> x.has(1, bad, 0, 0, 0));
            illegal("b " + bad, () -> x.has(1, 0, bad, 0, 0));
            illegal("c " + bad, () -> x.has(1, 0, 0, bad, 0));
            illegal("d " + bad, () -> x.has(2, 0, 0, 0, bad));
        }
    }

    private static void promise10() {
        PrimaryParts x = with("(a2,ab)", "(a)", "()", "(1)");
        boolean[][] due = {
            {true, true, false, true}, {false, true, false, true}, {true, true, true, true}, {false, false, false, true},
        };
        for (int i = 0; i < 4; i++) {
            for (int j = 0; j < 4; j++) {
                int k = i;
                int n = j;
                due("within " + i + " " + j, due[i][j], () -> x.within(k, n));
            }
        }
        for (int bad : new int[] {-1, 8, MIN, MAX}) {
            noSuch("within " + bad + " 0", () -> x.within(bad, 0));
            noSuch("within 0 " + bad, () -> x.within(0, bad));
        }
    }

    private static void partsAre(PrimaryParts x, int place, int part, int... due) {
        for (int k = 0; k < due.length; k++) {
            int what = k;
            due("part " + place + " " + part + " " + k, due[k], () -> x.part(place, part, what));
        }
    }

    private static void promise11() {
        PrimaryParts x = with("(a2,ab)", "()", "(a,b)^2&(c)", "(1)", "(ab,cd)");
        partsAre(x, 0, 0, 1, 0, 1, 1, 1);
        partsAre(x, 0, 1, 3, 1, 1, 2, 1);
        partsAre(x, 1, 0, 0, 0, 1, 0, 1);
        partsAre(x, 2, 0, 4, 0, 1, 1, 1);
        partsAre(x, 2, 1, 3, 0, 2, 3, 3);
        partsAre(x, 4, 0, 5, 0, 1, 2, 1);
        partsAre(x, 4, 1, 6, 0, 1, 2, 1);
        partsAre(x, 4, 2, 9, 0, 1, 2, 1);
        partsAre(x, 4, 3, 10, 0, 1, 2, 1);
        for (int bad : new int[] {-1, 8, MIN, MAX}) {
            noSuch("place " + bad, () -> x.part(bad, 0, 0));
        }
        for (int bad : new int[] {-1, 2, MIN, MAX}) {
            noSuch("part " + bad, () -> x.part(0, bad, 0));
        }
        for (int bad : new int[] {-1, 5, MIN, MAX}) {
            noSuch("what " + bad, () -> x.part(0, 0, bad));
        }
        noSuch("a part of WHOLE", () -> x.part(3, 0, 0));
        manyPart();
    }

    private static void manyPart() {
        PrimaryParts x = new PrimaryParts();
        due("generators", 54, () -> Checks.tell(x, 0, MANY_PART));
        due("parts", 4, () -> x.count(0, 3));
        due("generators of part 2", 6, () -> x.part(0, 2, 3));
        due("generators of part 3", -3, () -> x.part(0, 3, 3));
        due("its prime", 15, () -> x.part(0, 3, 0));
        due("make of it", -3, () -> x.make(1, 7, 0, 3));
        due("nothing made", 0, () -> x.count(1, 0));
        due("no act", 0, x::undo);
    }

    private interface OfPart {
        int answer(int part, int variable);
    }

    private static void monomialsAre(String what, OfPart call, int part, int... due) {
        for (int v = 0; v < 4; v++) {
            int variable = v;
            due(what + " " + part + " " + v, due[v], () -> call.answer(part, variable));
        }
    }

    private static void wrongParts(String what, OfPart call, int parts) {
        for (int bad : new int[] {-1, parts, MIN, MAX}) {
            noSuch(what + ": part " + bad, () -> call.answer(bad, 0));
        }
        for (int bad : new int[] {-1, 4, MIN, MAX}) {
            noSuch(what + ": variable " + bad, () -> call.answer(0, bad));
        }
    }

    private static void promise12() {
        PrimaryParts x = with("(a3,ab)", "()", "(ab,cd)", "(1)", "(a2,b3,c,d2)");
        monomialsAre("witness 0", (p, v) -> x.witness(0, p, v), 0, 0, 1, 0, 0);
        monomialsAre("witness 0", (p, v) -> x.witness(0, p, v), 1, 2, 0, 0, 0);
        monomialsAre("witness 1", (p, v) -> x.witness(1, p, v), 0, 0, 0, 0, 0);
        monomialsAre("witness 2", (p, v) -> x.witness(2, p, v), 0, 0, 1, 0, 1);
        monomialsAre("witness 2", (p, v) -> x.witness(2, p, v), 3, 1, 0, 1, 0);
        monomialsAre("witness 4", (p, v) -> x.witness(4, p, v), 0, 1, 2, 0, 1);
        wrongParts("witness", (p, v) -> x.witness(0, p, v), 2);
        for (int bad : new int[] {-1, 8, MIN, MAX}) {
            noSuch("place " + bad, () -> x.witness(bad, 0, 0));
        }
        noSuch("WHOLE", () -> x.witness(3, 0, 0));
    }

    private static void promise13() {
        PrimaryParts x = with("(a3,ab)", "()", "(ab,cd)", "(1)", "(a2,b3,c,d2)");
        monomialsAre("proof 0", (p, v) -> x.proof(0, p, v), 0, 0, 1, 0, 0);
        monomialsAre("proof 0", (p, v) -> x.proof(0, p, v), 1, 1, 0, 0, 0);
        monomialsAre("proof 1", (p, v) -> x.proof(1, p, v), 0, 0, 0, 0, 0);
        monomialsAre("proof 2", (p, v) -> x.proof(2, p, v), 0, 0, 1, 0, 1);
        monomialsAre("proof 2", (p, v) -> x.proof(2, p, v), 1, 1, 0, 0, 1);
        monomialsAre("proof 4", (p, v) -> x.proof(4, p, v), 0, 0, 0, 0, 0);
        wrongParts("proof", (p, v) -> x.proof(0, p, v), 2);
        for (int bad : new int[] {-1, 8, MIN, MAX}) {
            noSuch("place " + bad, () -> x.proof(bad, 0, 0));
        }
        noSuch("WHOLE", () -> x.proof(3, 0, 0));
    }

    private static void rows(String what, OfPart call, int i, int... due) {
        for (int v = -1; v < 4; v++) {
            int variable = v;
            due(what + " " + i + " " + v, due[v + 1], () -> call.answer(i, variable));
        }
    }

    private static void wrongRows(String what, OfPart call, int size) {
        for (int bad : new int[] {-1, size, MIN, MAX}) {
            noSuch(what + ": " + bad, () -> call.answer(bad, 0));
            noSuch(what + ": " + bad + " with NONE", () -> call.answer(bad, -1));
        }
        for (int bad : new int[] {-2, 4, MIN, MAX}) {
            noSuch(what + ": variable " + bad, () -> call.answer(0, bad));
        }
    }

    private static void promise14() {
        PrimaryParts x = with("(a,b)^3&(c4)&(a5,c5,d)", "()", "(1)");
        rows("irreducible", (i, v) -> x.irreducible(0, i, v), 0, 0, 0, 0, 4, 0);
        rows("irreducible", (i, v) -> x.irreducible(0, i, v), 1, 1, 1, 3, 0, 0);
        rows("irreducible", (i, v) -> x.irreducible(0, i, v), 2, 1, 2, 2, 0, 0);
        rows("irreducible", (i, v) -> x.irreducible(0, i, v), 3, 1, 3, 1, 0, 0);
        rows("irreducible", (i, v) -> x.irreducible(0, i, v), 4, 2, 5, 0, 5, 1);
        rows("irreducible of EMPTY", (i, v) -> x.irreducible(1, i, v), 0, 0, 0, 0, 0, 0);
        wrongRows("irreducible", (i, v) -> x.irreducible(0, i, v), 5);
        wrongRows("irreducible of EMPTY", (i, v) -> x.irreducible(1, i, v), 1);
        wrongRows("irreducible of WHOLE", (i, v) -> x.irreducible(2, i, v), 0);
        noSuch("irreducible of WHOLE", () -> x.irreducible(2, 0, 0));
        for (int bad : new int[] {-1, 8, MIN, MAX}) {
            noSuch("place " + bad, () -> x.irreducible(bad, 0, 0));
        }
    }

    private static void promise15() {
        PrimaryParts x = with("(a2,ab)", "()", "(1)", "(a,b)^2&(c)", "(a2,b2,c,d)");
        rows("pair", (i, v) -> x.pair(0, i, v), 0, 12, 1, 0, 0, 0);
        rows("pair", (i, v) -> x.pair(0, i, v), 1, 14, 0, 0, 0, 0);
        rows("pair of EMPTY", (i, v) -> x.pair(1, i, v), 0, 15, 0, 0, 0, 0);
        rows("pair", (i, v) -> x.pair(3, i, v), 0, 11, 0, 0, 0, 0);
        rows("pair", (i, v) -> x.pair(3, i, v), 1, 12, 0, 0, 0, 0);
        rows("pair", (i, v) -> x.pair(3, i, v), 2, 12, 1, 0, 0, 0);
        rows("pair", (i, v) -> x.pair(3, i, v), 3, 12, 0, 1, 0, 0);
        rows("pair", (i, v) -> x.pair(4, i, v), 0, 0, 0, 0, 0, 0);
        rows("pair", (i, v) -> x.pair(4, i, v), 1, 0, 1, 0, 0, 0);
        rows("pair", (i, v) -> x.pair(4, i, v), 2, 0, 0, 1, 0, 0);
        rows("pair", (i, v) -> x.pair(4, i, v), 3, 0, 1, 1, 0, 0);
        wrongRows("pair", (i, v) -> x.pair(0, i, v), 2);
        wrongRows("pair of EMPTY", (i, v) -> x.pair(1, i, v), 1);
        wrongRows("pair of WHOLE", (i, v) -> x.pair(2, i, v), 0);
        noSuch("pair of WHOLE", () -> x.pair(2, 0, 0));
        for (int bad : new int[] {-1, 8, MIN, MAX}) {
            noSuch("place " + bad, () -> x.pair(bad, 0, 0));
        }
    }

    private static void promise16() {
        PrimaryParts x = with("(a2,ab)", "()", "(1)", "(a2,b2,c2,d2)", "(a12b12c12d12)");
        for (int n = 0; n <= 40; n++) {
            int degree = n;
            due("outside 0 " + n, (n + 1) * (n + 2) / 2 + n, () -> x.outside(0, degree));
            due("outside 1 " + n, (n + 1) * (n + 2) * (n + 3) / 6, () -> x.outside(1, degree));
            due("outside 2 " + n, 0, () -> x.outside(2, degree));
            due("outside 3 " + n, n < 5 ? new int[] {1, 4, 6, 4, 1}[n] : 0, () -> x.outside(3, degree));
            due("outside 4 " + n, (n + 1) * (n + 2) * (n + 3) / 6, () -> x.outside(4, degree));
        }
        for (int bad : new int[] {-1, 41, MIN, MAX}) {
            illegal("degree " + bad, () -> x.outside(0, bad));
            noSuch("place ahead of degree " + bad, () -> x.outside(8, bad));
        }
        for (int bad : new int[] {-1, 8, MIN, MAX}) {
            noSuch("place " + bad, () -> x.outside(bad, 0));
        }
    }

    private static void outers(PrimaryParts x, int place, int degree, int i, int... due) {
        for (int v = 0; v < 4; v++) {
            int variable = v;
            due("outer " + place + " " + degree + " " + i, due[v], () -> x.outer(place, degree, i, variable));
        }
    }

    private static void promise17() {
        PrimaryParts x = with("(a2,ab)", "()", "(1)");
        outers(x, 0, 2, 0, 1, 0, 1, 0);
        outers(x, 0, 2, 1, 1, 0, 0, 1);
        outers(x, 0, 2, 2, 0, 2, 0, 0);
        outers(x, 0, 2, 7, 0, 0, 0, 2);
        outers(x, 0, 2, 8, -1, -1, -1, -1);
        outers(x, 0, 2, MAX, -1, -1, -1, -1);
        outers(x, 0, 2, -1, -1, -1, -1, -1);
        outers(x, 0, 2, MIN, -1, -1, -1, -1);
        outers(x, 0, 0, 0, 0, 0, 0, 0);
        outers(x, 1, 40, 0, 40, 0, 0, 0);
        outers(x, 1, 40, 1, 39, 1, 0, 0);
        outers(x, 1, 40, 12340, 0, 0, 0, 40);
        outers(x, 1, 40, 12341, -1, -1, -1, -1);
        outers(x, 2, 0, 0, -1, -1, -1, -1);
        outers(x, 2, 40, 0, -1, -1, -1, -1);
        for (int bad : new int[] {-1, 41, MIN, MAX}) {
            illegal("degree " + bad, () -> x.outer(0, bad, 0, 0));
            illegal("degree ahead of i " + bad, () -> x.outer(0, bad, -1, 0));
            noSuch("place ahead of degree " + bad, () -> x.outer(8, bad, 0, 0));
            noSuch("variable ahead of degree " + bad, () -> x.outer(0, bad, 0, 4));
        }
        for (int bad : new int[] {-1, 8, MIN, MAX}) {
            noSuch("place " + bad, () -> x.outer(bad, 0, 0, 0));
        }
        for (int bad : new int[] {-1, 4, MIN, MAX}) {
            noSuch("variable " + bad, () -> x.outer(0, 0, 0, bad));
            noSuch("variable ahead of i " + bad, () -> x.outer(0, 0, -1, bad));
        }
    }

    private static void promise18() {
        PrimaryParts x = with("(a)", "(a2,ab)", "()", "(1)", SIXTY, "(a5,b5,c5,d2)");
        for (int n = 0; n <= 40; n++) {
            int degree = n;
            due("between 0 1 " + n, n, () -> x.between(0, 1, degree));
            due("between 1 0 " + n, 0, () -> x.between(1, 0, degree));
            due("between 0 0 " + n, 0, () -> x.between(0, 0, degree));
            due("between 2 3 " + n, 0, () -> x.between(2, 3, degree));
            due("between 3 2 " + n, (n + 1) * (n + 2) * (n + 3) / 6, () -> x.between(3, 2, degree));
            due("between 0 2 " + n, n * (n + 1) * (n + 2) / 6, () -> x.between(0, 2, degree));
        }
        due("more than 60 together", true, () -> x.between(4, 5, 5) == 15 && x.between(5, 4, 5) > 0);
        for (int bad : new int[] {-1, 41, MIN, MAX}) {
            illegal("degree " + bad, () -> x.between(0, 1, bad));
            noSuch("place ahead of degree " + bad, () -> x.between(8, 1, bad));
            noSuch("place ahead of degree " + bad, () -> x.between(0, 8, bad));
        }
        for (int bad : new int[] {-1, 8, MIN, MAX}) {
            noSuch("place " + bad, () -> x.between(bad, 0, 0));
            noSuch("place " + bad, () -> x.between(0, bad, 0));
        }
    }

    private static void promise19() {
        String[] texts = {
            "()", "(1)", "(a)", "(a2,b2,c2,d2)", "(a12,b12,c12,d12)", "(a10b10c10d10)", "(a10b10c10d9)",
            "(a12b12c12d12)", "(a10b10c10d11)", "(a4)", "(a5)", "(a10b10c10d10,a11)",
        };
        int[] due = {0, 0, 0, 5, 33, -1, 36, 0, 0, 1, 2, -1};
        for (int k = 0; k < texts.length; k++) {
            PrimaryParts x = with(texts[k]);
            due("steady " + texts[k], due[k], () -> x.steady(0));
        }
        PrimaryParts x = new PrimaryParts();
        for (int bad : new int[] {-1, 8, MIN, MAX}) {
            noSuch("place " + bad, () -> x.steady(bad));
        }
    }

    private static void promise20() {
        PrimaryParts x = new PrimaryParts();
        due("nothing to undo", -1, x::undo);
        for (int k = 0; k < 25; k++) {
            int n = k;
            due("act " + k, 1, () -> Checks.tell(x, n % 8, "(a)^" + n % 9 + "*(b)"));
        }
        for (int k = 19; k >= 0; k--) {
            int n = k;
            due("undo " + k, n, x::undo);
            due("place of act " + (k + 5), k + 5 >= 8 ? 1 : 0, () -> x.count((n + 5) % 8, 0));
        }
        due("no more", -1, x::undo);
        due("no more", -1, x::undo);
        due("the first five stay", 1, () -> x.count(4, 0));
        due("the sixth is gone", 0, () -> x.count(5, 0));
        promise20Acts();
    }

    private static void promise20Acts() {
        PrimaryParts x = with("(a)");
        due("make of the same ideal is an act", 1, () -> x.make(0, 0, 0, 0));
        due("tell of the same ideal is an act", 1, () -> Checks.tell(x, 0, "(a)"));
        due("dual is an act", 1, () -> x.dual(1, 0, 1, 0, 0, 0));
        due("image is no act", 2, x::image);
        due("back is an act", true, x::back);
        due("refused: no act", -1, () -> x.make(0, 99, 0, 0));
        due("undo back", 4, x::undo);
        due("undo dual", 3, x::undo);
        due("dual undone", 0, () -> x.count(1, 0));
        due("undo tell", 2, x::undo);
        due("undo make", 1, x::undo);
        due("still there", 1, () -> x.count(0, 0));
        due("undo the first", 0, x::undo);
        due("gone", 0, () -> x.count(0, 0));
        due("none", -1, x::undo);
        due("undo leaves what is kept", true, x::back);
        due("kept", 1, () -> x.count(1, 0));
        due("undo of that", 0, x::undo);
        PrimaryParts y = with("(a)");
        Checks.tell(y, 1, "(a,");
        Checks.feed(y, "(b)");
        y.say(0);
        y.undo();
        due("undo leaves the fault", 3, y::fault);
        due("undo leaves what is said", (int) 'a', () -> y.said(1));
        due("undo leaves the tape", 1, () -> y.tell(0, 20));
        due("told again behind an undo", 0, y::undo);
        due("back that is false is no act", false, y::back);
        due("back that is false is no act", -1, y::undo);
    }

    private static void promise21() {
        PrimaryParts x = with("(a)", "(1)", "()");
        due("image", 2, x::image);
        Checks.tell(x, 0, "()");
        due("image is as it was", true, x::back);
        due("image is as it was", "(a)", () -> Checks.spoken(x, 0));
        Checks.tell(x, 7, "(b)");
        due("image again", 3, x::image);
        Checks.tell(x, 7, "()");
        Checks.tell(x, 0, "()");
        due("back to the later one", true, x::back);
        due("back to the later one", "(b)", () -> Checks.spoken(x, 7));
        due("image is no act", 8, x::undo);
        PrimaryParts y = new PrimaryParts();
        due("image of nothing", 0, y::image);
        for (int k = 0; k < 8; k++) {
            Checks.tell(y, k, "(a)");
        }
        due("image of all", 8, y::image);
    }

    private static void promise22() {
        PrimaryParts x = with("(a)", "(b)");
        due("nothing kept", false, x::back);
        due("nothing changed", "(a)", () -> Checks.spoken(x, 0));
        x.image();
        Checks.tell(x, 0, "(c)");
        Checks.tell(x, 5, "(d)");
        due("back", true, x::back);
        due("place 0", "(a)", () -> Checks.spoken(x, 0));
        due("place 1", "(b)", () -> Checks.spoken(x, 1));
        due("place 5", "()", () -> Checks.spoken(x, 5));
        due("undone", 4, x::undo);
        due("place 0", "(c)", () -> Checks.spoken(x, 0));
        due("place 5", "(d)", () -> Checks.spoken(x, 5));
        due("they stay kept", true, x::back);
        due("they stay kept", true, x::back);
        due("place 0", "(a)", () -> Checks.spoken(x, 0));
        due("each is an act", 5, x::undo);
        PrimaryParts y = new PrimaryParts();
        y.image();
        Checks.tell(y, 0, "(a)");
        due("an image of EMPTY ones", true, y::back);
        due("place 0", "()", () -> Checks.spoken(y, 0));
    }

    private static void promise23() {
        PrimaryParts x = with("()", "(1)", "(a1b2c10d12)", "(d,c2,b3,a12)", "(a2,ab,b2)", SIXTY);
        due("EMPTY", "()", () -> Checks.spoken(x, 0));
        due("WHOLE", "(1)", () -> Checks.spoken(x, 1));
        due("one", "(ab2c10d12)", () -> Checks.spoken(x, 2));
        due("some", "(d,c2,b3,a12)", () -> Checks.spoken(x, 3));
        due("how many bytes", 10, () -> x.say(4));
        due("sixty", true, () -> Checks.spoken(x, 5).startsWith("(a4d,a3bd,a3cd,a2b2d,"));
        for (int bad : new int[] {-1, 8, MIN, MAX}) {
            noSuch("place " + bad, () -> x.say(bad));
        }
        PrimaryParts y = new PrimaryParts();
        String told = Checks.spoken(x, 3);
        due("what is said can be told", 4, () -> Checks.tell(y, 0, told));
        due("and is the same", told, () -> Checks.spoken(y, 0));
    }

    private static void promise24() {
        PrimaryParts x = new PrimaryParts();
        due("nothing said", -1, () -> x.said(0));
        due("EMPTY", 2, () -> x.say(0));
        due("byte 0", (int) '(', () -> x.said(0));
        due("byte 1", (int) ')', () -> x.said(1));
        due("byte 2", -1, () -> x.said(2));
        Checks.tell(x, 0, "(a2b)");
        due("as it was then", (int) ')', () -> x.said(1));
        due("say again", 5, () -> x.say(0));
        x.undo();
        due("as it was then", (int) '2', () -> x.said(2));
        due("a say that throws", "throws.NoSuchElementException", () -> x.say(8));
        due("leaves it", (int) '2', () -> x.said(2));
        for (int bad : new int[] {-1, 5, MIN, MAX}) {
            due("byte " + bad, -1, () -> x.said(bad));
        }
        due("a shorter one", 2, () -> x.say(0));
        due("is shorter", -1, () -> x.said(2));
    }
}
