/** Counts checks, and prints each whose answer is not the one that is due. */
final class Checks {
    interface Call {
        Object answer();
    }

    private final String name;
    private String sentence = "";
    private int done;
    private int wrong;

    Checks(String name) {
        this.name = name;
    }

    /** The next checks go by this sentence, which must stand in the document under that heading. */
    void by(String heading, String words) {
        sentence = " [" + words + "]";
        same("the document says so under " + heading, true, Document.says(heading, words));
    }

    /** An exception is told as throws.ItsName. */
    static Object answerOf(Call call) {
        try {
            return call.answer();
        } catch (RuntimeException e) {
            return "throws." + e.getClass().getSimpleName();
        }
    }

    boolean due(String what, Object want, Call call) {
        return same(what, want, answerOf(call));
    }

    boolean same(String what, Object want, Object got) {
        done++;
        if (want.equals(got)) {
            return true;
        }
        wrong++;
        if (wrong <= 50) {
            System.out.println(name + ": " + what + " answered " + got + ", due is " + want + sentence);
        }
        return false;
    }

    void noSuch(String what, Call call) {
        due(what, "throws.NoSuchElementException", call);
    }

    void illegal(String what, Call call) {
        due(what, "throws.IllegalArgumentException", call);
    }

    int wrong() {
        return wrong;
    }

    void finish() {
        System.out.println(name + ": " + done + " checks, " + wrong + " wrong");
        if (wrong != 0) {
            System.exit(1);
        }
    }

    /** Five numbers for each twenty bytes of a text that is filled up with blanks. */
    static int[] packed(String text) {
        int rows = (text.length() + 19) / 20;
        int[] numbers = new int[rows * 5];
        for (int k = 0; k < rows * 20; k++) {
            int sign = k < text.length() ? text.charAt(k) : ' ';
            numbers[k / 4] |= (sign & 255) << 8 * (3 - k % 4);
        }
        return numbers;
    }

    static void feed(PrimaryParts x, String text) {
        int[] numbers = packed(text);
        for (int k = 0; k < numbers.length; k += 5) {
            x.feed(numbers[k], numbers[k + 1], numbers[k + 2], numbers[k + 3], numbers[k + 4]);
        }
    }

    static int tell(PrimaryParts x, int place, String text) {
        feed(x, text);
        return x.tell(place, text.length());
    }

    static String spoken(PrimaryParts x, int place) {
        int size = x.say(place);
        StringBuilder out = new StringBuilder();
        for (int k = 0; k < size; k++) {
            out.append((char) x.said(k));
        }
        return out.toString();
    }
}
