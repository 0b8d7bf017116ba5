import java.util.List;
import java.util.function.Consumer;

/** Every call with every edge in every place of its arguments, in several states, against NaiveHelp: none throws. */
public final class EdgeArgumentsTest {
    private static final int LEAST = Integer.MIN_VALUE;
    private static final int MOST = Integer.MAX_VALUE;
    private static final int[] MANY = {LEAST, LEAST + 1, -1000001, -1000000, -100001, -1001, -1000, -100, -99, -33, -32, -31, -3, -2,
        -1, 0, 1, 2, 3, 4, 5, 6, 7, 8, 9, 10, 11, 12, 13, 15, 16, 17, 20, 21, 31, 32, 33, 63, 64, 65, 98, 99, 100, 101, 127, 128,
        255, 256, 399, 400, 401, 1000, 1022, 1023, 1024, 9999, 10000, 65535, 65536, 100000, 100001, MOST - 1, MOST};
    private static final int[] SOME = {LEAST, -100001, -100000, -2, -1, 0, 1, 2, 3, 4, 5, 6, 7, 9, 10, 11, 12, 20, 21, 32, 63, 64, 99,
        100, 101, 100000, 100001, MOST};
    private static final List<String> NO_ARGUMENT = List.of("town", "rule", "total", "night", "undo", "shuns", "islands", "census");
    private static final List<String> ONE = List.of("end", "force", "busy", "worlds", "ask", "gates", "odd", "seed", "count", "image",
        "back");
    private static final List<String> TWO = List.of("at", "person", "crowd", "sum", "heard", "cheat", "palms", "shook", "passes",
        "have", "rounds");
    private static final List<String> THREE = List.of("shake", "street", "go", "told", "drawn");

    private static int wrong = 0;
    private static long calls = 0;

    public static void main(String[] args) {
        inState("nothing", t -> {
        });
        inState("a rule and no town", t -> {
            t.load("shake 1", "rule");
            t.call("force", 0);
            t.call("image", 2);
        });
        inState("a town of nobody", t -> t.load("town 2 1", "town"));
        inState("a plain town", t -> t.load("town 3 2;person 01;person 0-;person 01;counter 1;kin 0 2;child 1", "town"));
        inState("a rich town", EdgeArgumentsTest::rich);
        inState("a full town", EdgeArgumentsTest::full);
        System.out.println(wrong == 0 ? calls + " calls with edges are as due" : wrong + " calls with edges are not as due");
        if (wrong != 0) {
            System.exit(1);
        }
    }

    private static void rich(TwinsHelp t) {
        t.load("town 3 4;person 00-1;person 0011;person 1101;person -012;left 1;gloved 2;child 3;kin 0 1;counter 0", "town");
        t.load("shake 3 - met if kin = 1;shake crowd * 2 - left + gloves", "rule");
        t.load("shake 0 - 999", "rule");
        t.call("force", 0);
        t.call("go", 3, 0, 1);
        t.call("image", 1);
        t.call("night");
        t.call("told", 1, 3, 4);
        t.call("palms", 0, 2);
        t.call("seed", MOST);
        t.feed("town 2 1;person 0 ;  ");
    }

    /** Not all are at one GATE, so that the naive twin can follow. */
    private static void full(TwinsHelp t) {
        StringBuilder text = new StringBuilder("town 6 12");
        for (int p = 0; p < 10; p++) {
            text.append(";person ").append("5-".repeat(2)).append((char) ('0' + p % 6)).append("--").append("-".repeat(4)).append(p / 5);
        }
        t.load(text.toString(), "town");
        for (int r = 0; r < 6; r++) {
            t.load("shake crowd * " + r + " - gloves", "rule");
        }
        t.call("force", 5);
        for (int i = 0; i < 25; i++) {
            t.call("night");
        }
        for (int i = 0; i < 4; i++) {
            t.call("image", i);
        }
        for (int i = 0; i < 20; i++) {
            t.feed("town 2 1;person 0 ;  ".substring(0, 20));
        }
    }

    private static void inState(String name, Consumer<TwinsHelp> past) {
        int before = wrong;
        for (String call : NO_ARGUMENT) {
            edge(past, call);
        }
        for (int a : MANY) {
            for (String call : ONE) {
                edge(past, call, a);
            }
        }
        sweep(past, "glove", MANY, new int[] {0, 1});
        sweep(past, "counter", MANY, new int[] {0, 1});
        for (String call : TWO) {
            sweep(past, call, MANY, SOME);
            sweep(past, call, SOME, MANY);
        }
        for (String call : THREE) {
            for (int a : SOME) {
                sweep(past, call, new int[] {a}, SOME, SOME);
            }
        }
        if (wrong != before) {
            System.out.println("that is with " + name);
        }
    }

    /** One call alone behind that past. */
    private static void edge(Consumer<TwinsHelp> past, String name, int... args) {
        TwinsHelp t = new TwinsHelp();
        past.accept(t);
        t.call(name, args);
        t.compare();
        calls++;
        wrong += t.isWrong ? 1 : 0;
    }

    /** All of these behind one past, which is gone back to where a call did something. */
    private static void sweep(Consumer<TwinsHelp> past, String name, int[]... edges) {
        TwinsHelp t = new TwinsHelp();
        past.accept(t);
        t.call("image", 0);
        int[] args = new int[edges.length];
        int all = 1;
        for (int[] edge : edges) {
            all *= edge.length;
        }
        for (int i = 0; i < all && !t.isWrong; i++) {
            int rest = i;
            for (int k = 0; k < edges.length; k++) {
                args[k] = edges[k][rest % edges[k].length];
                rest /= edges[k].length;
            }
            t.call(name, args.clone());
            for (int what = 5; what < 12; what++) {
                t.call("count", what);
            }
            t.call("back", 0);
            calls++;
        }
        t.compare();
        wrong += t.isWrong ? 1 : 0;
    }
}
