import java.lang.management.ManagementFactory;

/** How much the dearest runs of some 512 calls allocate: far less than the room that all calls of a run share. */
public final class RoomTest {
    /** A run may make 7.3 million elements; this many bytes hold fewer than a third of them. */
    private static final long MOST_BYTES = 8_000_000;
    private static final Checks CHECKS = new Checks("RoomTest");

    private interface Run {
        void go(PrimaryParts x, int call);
    }

    public static void main(String[] args) {
        measure("new objects", 20, (x, k) -> new PrimaryParts());
        measure("power of 1 in texts", 512 / 11, (x, k) -> Checks.tell(x, k % 8, "(1)" + "^9".repeat(98)));
        measure("sums in texts", 512 / 11, (x, k) -> {
            if (k == 0) {
                Checks.tell(x, 0, "(a,b,c,d)^5");
            }
            Checks.tell(x, 1, "#0" + "+#0".repeat(66));
        });
        measure("short texts", 256, (x, k) -> Checks.tell(x, k % 8, "(1)^9^9^9^9^9^9^9^9"));
        measure("saturations", 500, (x, k) -> {
            if (k == 0) {
                Checks.tell(x, 0, "(a,b,c,d)^5&(a12,b12,c12,d12)");
                Checks.tell(x, 1, "(a2,ab)");
                Checks.tell(x, 2, "(a12b12,b12c12,c12d12)");
                Checks.tell(x, 3, "(a,b,c,d)");
            }
            x.make(4, 4, k % 3, 3);
        });
        measure("deep powers", 510, (x, k) -> {
            if (k == 0) {
                Checks.tell(x, 0, "(a,b,c)");
            }
            x.make(1, 13, 0, 9);
        });
        measure("questions", 460, (x, k) -> {
            if (k == 0) {
                Checks.tell(x, 0, "(a,b,c,d)^5+(a12)");
            }
            ask(x, k);
        });
        CHECKS.finish();
    }

    private static void ask(PrimaryParts x, int k) {
        switch (k % 10) {
            case 0:
                x.count(0, k % 12);
                break;
            case 1:
                x.part(0, 0, k % 5);
                break;
            case 2:
                x.witness(0, 0, k % 4);
                break;
            case 3:
                x.proof(0, 0, k % 4);
                break;
            case 4:
                x.pair(0, k % 30, k % 4);
                break;
            case 5:
                x.between(0, 1, k % 41);
                break;
            case 6:
                x.steady(0);
                break;
            case 7:
                x.outer(1, 40, k * 20, k % 4);
                break;
            case 8:
                x.say(0);
                break;
            default:
                x.image();
                x.back();
        }
    }

    private static void measure(String what, int calls, Run run) {
        com.sun.management.ThreadMXBean bean = (com.sun.management.ThreadMXBean) ManagementFactory.getThreadMXBean();
        long id = Thread.currentThread().getId();
        PrimaryParts warm = new PrimaryParts();
        for (int k = 0; k < 4; k++) {
            run.go(warm, k);
        }
        long before = bean.getThreadAllocatedBytes(id);
        PrimaryParts x = new PrimaryParts();
        for (int k = 0; k < calls; k++) {
            run.go(x, k);
        }
        long bytes = bean.getThreadAllocatedBytes(id) - before;
        CHECKS.due(what + " (" + bytes + " bytes) fits", true, () -> bytes < MOST_BYTES);
        if (System.getenv("TELL_BYTES") != null) {
            System.out.println(what + ": " + bytes);
        }
    }
}
