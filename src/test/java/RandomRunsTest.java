import java.util.List;
import java.util.Random;

/** Random runs of calls, half sensible and half not, against NaiveHelp; the seed is fixed. */
public final class RandomRunsTest {
    private static final int RUNS = Integer.getInteger("runs", 700);
    private static final int CALLS = 160;
    private static final String[] VALUES =
        {"one", "other", "gate", "hour", "day", "met", "kin", "left", "gloves", "children", "crowd"};
    private static final List<String> SLOW = List.of("worlds", "ask", "gates", "cheat", "odd", "drawn", "shuns", "shook");

    private static Random r = new Random(20261118);
    private static int wrong = 0;
    private static TwinsHelp twins;
    private static NaiveHelp due;
    private static int people;
    private static int gates;
    private static int hours;

    public static void main(String[] args) {
        r = new Random(Long.getLong("seed", 20261118L));
        for (int run = 0; run < RUNS && wrong == 0; run++) {
            twins = new TwinsHelp();
            due = twins.due;
            oneRun(run);
        }
        System.out.println(wrong == 0 ? RUNS + " random runs are as due" : "random runs are not as due");
        if (wrong != 0) {
            System.exit(1);
        }
    }

    private static void oneRun(int run) {
        boolean large = run % 10 == 0;
        for (int i = 0; i < CALLS && wrong == 0; i++) {
            int dice = r.nextInt(100);
            boolean needsTown = i > 0 && i % 5 == 0 && due.count(0) == 0;
            if (needsTown || dice < (i == 0 ? 60 : 2)) {
                load(randomTown(large), "town");
            } else if (dice < (i < 4 ? 50 : 5)) {
                load(randomRule(), "rule");
            } else if (dice < 8) {
                call("force", r.nextInt(7) - 1);
            } else if (dice < 10 && run % 7 == 0) {
                for (int n = 0; n < 15; n++) {
                    act();
                }
            } else {
                randomCall(large);
            }
        }
    }

    private static void load(String text, String as) {
        String whole = text.length() > 400 ? text.substring(0, 400) : text;
        String t = r.nextInt(4) == 0 ? mutated(whole) : whole;
        if (r.nextInt(8) != 0) {
            call("end", 0);
        }
        twins.feed(t);
        if (r.nextInt(20) != 0) {
            call("end", t.length());
        }
        call(as);
        gates = due.count(0);
        hours = due.count(1);
        people = due.count(2);
    }

    private static String mutated(String text) {
        StringBuilder b = new StringBuilder(text);
        String signs = "  ;;0123456789-[]<=>+*/%anotifxA\0\u00e9";
        for (int n = 1 + r.nextInt(2); n > 0 && b.length() > 0; n--) {
            int at = r.nextInt(b.length());
            char c = signs.charAt(r.nextInt(signs.length()));
            switch (r.nextInt(4)) {
                case 0 -> b.setCharAt(at, c);
                case 1 -> b.insert(at, c);
                case 2 -> b.deleteCharAt(at);
                default -> b.setLength(at);
            }
        }
        return b.toString();
    }

    private static String blank() {
        return r.nextInt(6) == 0 ? "  " : " ";
    }

    private static String maybe() {
        return r.nextInt(4) == 0 ? " " : "";
    }

    private static String randomTown(boolean large) {
        int g = 2 + r.nextInt(5);
        int h = large ? 1 + r.nextInt(12) : 1 + r.nextInt(5);
        int n = large ? 5 + r.nextInt(r.nextInt(4) == 0 ? 8 : 6) : r.nextInt(7);
        int spread = 1 + r.nextInt(g);
        StringBuilder b = new StringBuilder(maybe() + "town" + blank() + g + blank() + h + maybe());
        for (int p = 0; p < n; p++) {
            b.append(";").append(maybe()).append("person").append(maybe());
            for (int i = 0; i < h; i++) {
                int place = r.nextInt(spread + 1);
                b.append(place == spread ? "-" : String.valueOf(place));
            }
        }
        for (int extra = r.nextInt(20) == 0 ? 45 : r.nextInt(8); extra > 0 && b.length() < 380; extra--) {
            int p = n == 0 ? 0 : r.nextInt(n);
            int q = n < 2 || r.nextInt(20) == 0 ? p : (p + 1 + r.nextInt(n - 1)) % n;
            b.append(r.nextInt(9) == 0 ? " ; " : ";");
            switch (n == 0 ? 5 : r.nextInt(6)) {
                case 0 -> b.append("left").append(maybe()).append(p);
                case 1 -> b.append("gloved ").append(p);
                case 2 -> b.append("child 0").append(p);
                case 3 -> b.append("kin ").append(p).append(blank()).append(q);
                default -> b.append("counter ").append(r.nextInt(g));
            }
        }
        return b.toString();
    }

    private static String randomRule() {
        StringBuilder b = new StringBuilder();
        int clauses = r.nextInt(15) == 0 ? 12 + r.nextInt(2) : 1 + r.nextInt(4);
        for (int i = 0; i < clauses; i++) {
            b.append(i == 0 ? "" : maybe() + ";" + maybe()).append("shake").append(blank());
            sum(b, r.nextInt(30) == 0 ? 40 : 3);
            if (r.nextInt(3) != 0) {
                b.append(blank()).append("if").append(blank());
                test(b, r.nextInt(8) == 0 ? 12 : 3);
            }
        }
        return b.toString();
    }

    private static void sum(StringBuilder b, int most) {
        for (int n = 1 + r.nextInt(most); n > 0; n--) {
            boolean number = r.nextInt(3) == 0;
            b.append(number ? String.valueOf(r.nextInt(r.nextInt(9) == 0 ? 100000 : 9)) : VALUES[r.nextInt(VALUES.length)]);
            if (n > 1) {
                b.append(maybe()).append("+-*/%*".charAt(r.nextInt(6))).append(maybe());
            }
        }
    }

    private static void test(StringBuilder b, int depth) {
        int kind = r.nextInt(depth > 4 ? 4 : 6);
        if (depth > 0 && kind < 2) {
            b.append(kind == 0 ? "not " : "[");
            test(b, depth - 1);
            b.append(kind == 0 ? "" : maybe() + "]");
        } else {
            sum(b, 2);
            b.append(maybe()).append(new String[] {"<", "<=", "=", ">=", ">"}[r.nextInt(5)]).append(maybe());
            sum(b, 2);
        }
        if (r.nextInt(3) == 0 && b.length() < 300) {
            b.append(blank()).append(r.nextBoolean() ? "and" : "or").append(blank());
            test(b, Math.max(0, depth - 1));
        }
    }

    private static int pick(int size) {
        return r.nextInt(25) == 0 ? r.nextInt(14) - 2 : size > 0 ? r.nextInt(size) : r.nextInt(3);
    }

    private static int place() {
        return r.nextInt(4) == 0 ? 99 : pick(gates);
    }

    private static void act() {
        switch (r.nextInt(4)) {
            case 0 -> call("go", pick(people), pick(hours), place());
            case 1 -> call("glove", pick(people), r.nextInt(2));
            case 2 -> call("counter", pick(gates), r.nextInt(2));
            default -> call("night");
        }
    }

    private static void randomCall(boolean large) {
        switch (r.nextInt(36)) {
            case 0 -> call("at", pick(people), pick(hours));
            case 1 -> call("person", pick(people), pick(5));
            case 2 -> call("crowd", pick(gates), pick(hours));
            case 3 -> call("shake", pick(people), pick(people), pick(hours));
            case 4 -> call("sum", pick(gates), pick(hours));
            case 5 -> call("heard", pick(gates), pick(hours));
            case 6 -> call("total");
            case 7 -> call("street", pick(1 << gates), pick(hours), pick(hours));
            case 8 -> call("busy", pick(2));
            case 9, 10, 11 -> act();
            case 12 -> call("undo");
            case 13, 14 -> tell();
            case 15 -> call("worlds", pick(5));
            case 16 -> call("ask", pick(3));
            case 17 -> call("gates", pick(2));
            case 18 -> call("cheat", pick(people), pick(3));
            case 19 -> call("odd", pick(2));
            case 20 -> call("palms", pick(people), r.nextInt(3) == 0 ? -1 : pick(4));
            case 21 -> call("shuns");
            case 22 -> call("shook", pick(people), pick(people));
            case 23 -> call("passes", pick(people), pick(people));
            case 24 -> call("have", pick(people), pick(hours));
            case 25 -> call("islands");
            case 26 -> call("rounds", pick(1 << people), 1 + pick(6));
            case 27 -> call("census");
            case 28 -> call("seed", r.nextInt());
            case 29 -> call("drawn", 1 + pick(20), r.nextInt(3) == 0 ? pick(101) : r.nextInt(40), pick(3));
            case 30 -> call("image", pick(4));
            case 31 -> call("back", pick(4));
            default -> call("count", pick(13));
        }
        if (!large || r.nextInt(30) == 0) {
            for (int what = 0; what < 13; what++) {
                call("count", what);
            }
        }
        gates = due.count(0);
        hours = due.count(1);
        people = due.count(2);
    }

    /** Mostly a SUM that some WORLD has, so that the WORLDS that FIT are not always none. */
    private static void tell() {
        int gate = pick(gates);
        int hour = pick(hours);
        int sum = due.sum(gate, hour);
        int kind = r.nextInt(6);
        if (kind == 0) {
            call("told", -1, r.nextInt(20), r.nextInt(5));
        } else {
            call("told", gate, hour, kind == 1 ? r.nextInt(5) : kind == 2 ? 99999 + r.nextInt(3) : sum);
        }
    }

    private static void call(String name, int... args) {
        if (SLOW.contains(name) && due.count(2) > 7 && r.nextInt(3) != 0) {
            return;
        }
        twins.call(name, args);
        wrong += twins.isWrong ? 1 : 0;
    }
}
