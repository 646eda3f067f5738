import java.util.function.Function;

/** An object in which all is there that a call could spoil, and all that can be seen of it afterwards. */
final class Still {
    static final int TAPED = 40;
    static final int FAULT = 9;

    /** What stands in each PLACE of full(). */
    static final String[] TEXTS = {
        "(a2,ab)", "(a,b,c,d)^5", "(a7)", "(1)", "()", "(a,b)^9+(c,d)^9", "(a,b,c,d)", "(b12,c)",
    };

    private static final String[] SEEN = {looks(full(), 0), looks(full(), 1), looks(full(), 2), looks(full(), 3)};

    private Still() {
    }

    /** Ideals in all places but one, sixteen acts, an image older than the latest of them, a FAULT, something said. */
    static PrimaryParts withoutTape() {
        PrimaryParts x = new PrimaryParts();
        for (int place = 0; place < 8; place++) {
            Checks.tell(x, place, "(c" + (place + 1) + ")");
            if (place == 3) {
                x.image();
            }
            if (place % 2 == 1) {
                Checks.tell(x, place - 1, TEXTS[place - 1]);
                Checks.tell(x, place, TEXTS[place]);
            }
        }
        x.say(6);
        Checks.tell(x, 0, "(b)  & (a13)");
        return x;
    }

    static PrimaryParts full() {
        PrimaryParts x = withoutTape();
        Checks.feed(x, "(b2,c)+(d3)         *(a11)");
        return x;
    }

    /** The answer, and that the call has changed nothing: not what is on the tape either. */
    static void due(Checks checks, String what, Object want, Function<PrimaryParts, Object> call) {
        for (int side = 0; side < SEEN.length; side++) {
            PrimaryParts x = full();
            checks.due(what, want, () -> call.apply(x));
            checks.same("behind " + what, SEEN[side], looks(x, side));
        }
    }

    /** A text that is told in vain empties the tape, puts the FAULT's place, and changes nothing else. */
    static void told(Checks checks, String text, int want, int fault) {
        for (int side = 1; side < SEEN.length; side++) {
            PrimaryParts x = withoutTape();
            checks.due("tell " + text, want, () -> Checks.tell(x, 0, text));
            checks.due("the fault of " + text, fault, x::fault);
            checks.illegal("the tape behind " + text, () -> x.tell(0, 1));
            checks.same("behind " + text, SEEN[side], looks(x, side));
        }
    }

    /** One side of what can be seen; each takes fewer than the 512 calls that an object is good for. */
    private static String looks(PrimaryParts x, int side) {
        switch (side) {
            case 0:
                return ofTape(x);
            case 1:
                return ofPlaces(x);
            case 2:
                return ofImage(x);
            default:
                return ofPast(x);
        }
    }

    private static String ofTape(PrimaryParts x) {
        StringBuilder out = new StringBuilder("fault " + x.fault() + " said ");
        for (int k = 0; k < 12; k++) {
            out.append(x.said(k)).append(' ');
        }
        out.append("fed ").append(x.feed(0x20202020, 0x2a28612c, 0x62290a0a, 0, 0));
        out.append(" told ").append(x.tell(7, 52)).append(Checks.spoken(x, 7));
        return out.append(" undone ").append(x.undo()).toString();
    }

    private static String ofPlaces(PrimaryParts x) {
        StringBuilder out = new StringBuilder("said");
        for (int k = 0; k < 12; k++) {
            out.append(' ').append(x.said(k));
        }
        for (int place = 0; place < 8; place++) {
            out.append(' ').append(Checks.spoken(x, place));
        }
        return out.toString();
    }

    private static String ofImage(PrimaryParts x) {
        StringBuilder out = new StringBuilder("kept " + x.back());
        for (int place = 0; place < 8; place++) {
            out.append(' ').append(Checks.spoken(x, place));
        }
        return out.toString();
    }

    private static String ofPast(PrimaryParts x) {
        StringBuilder out = new StringBuilder();
        for (int left = x.undo(); left >= 0; left = x.undo()) {
            out.append(left);
            for (int place = 0; place < 8; place++) {
                out.append(' ').append(x.say(place));
            }
            out.append('\n');
        }
        return out.toString();
    }
}
