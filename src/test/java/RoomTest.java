import java.lang.management.ManagementFactory;

/** What a run makes: an object, and then next to nothing in 512 of its dearest calls. */
public final class RoomTest {
    private static final long MOST_FOR_OBJECT = 100_000;
    private static final long MOST_FOR_CALLS = 40_000;
    private static long object = 0;

    public static void main(String[] args) {
        // The first object brings its classes, too.
        new PalmCensus();
        run();
        long made = run();
        System.out.println("an object is of " + object + " bytes; 512 dear calls made " + made + " bytes");
        if (made > MOST_FOR_CALLS) {
            System.out.println("that is too much");
            System.exit(1);
        }
    }

    private static long bytes() {
        return ((com.sun.management.ThreadMXBean) ManagementFactory.getThreadMXBean()).getThreadAllocatedBytes(
            Thread.currentThread().getId());
    }

    /** How many calls it is, with the town() or rule() behind it. */
    private static int load(PalmCensus x, String text) {
        CallsHelp.tape(x, text);
        return 3 + (text.length() + 19) / 20;
    }

    private static long run() {
        long before = bytes();
        PalmCensus x = new PalmCensus();
        object = bytes() - before;
        if (object > MOST_FOR_OBJECT) {
            System.out.println("an object of " + object + " bytes is too much");
            System.exit(1);
        }
        String town = "town 2 12" + ";person 000000000000".repeat(10);
        String rule = "shake crowd" + "*hour+crowd%3-met".repeat(13) + " if crowd + one * other + gloves > day";
        before = bytes();
        int calls = load(x, town);
        x.town();
        for (int i = 0; i < 6; i++) {
            calls += load(x, rule);
            x.rule();
        }
        if (x.force(0) != -1) {
            System.out.println("the rule is none");
            System.exit(1);
        }
        for (int i = 0; calls < 512; i++, calls++) {
            dear(x, i);
        }
        return bytes() - before;
    }

    private static void dear(PalmCensus x, int i) {
        switch (i % 9) {
            case 0 -> x.told(0, i % 12, 0);
            case 1 -> x.worlds(0);
            case 2 -> x.ask(2);
            case 3 -> x.cheat(i % 10, 0);
            case 4 -> x.odd(1);
            case 5 -> x.drawn(20, 50, 0);
            case 6 -> x.image(i % 4);
            case 7 -> x.back(i % 4);
            default -> x.go(i % 10, i % 12, i % 2);
        }
    }
}
