import java.io.IOException;
import java.nio.file.Files;
import java.nio.file.Path;
import java.util.ArrayList;
import java.util.List;
import java.util.TreeMap;
import java.util.function.Consumer;
import java.util.function.ToLongFunction;
import java.util.regex.Matcher;
import java.util.regex.Pattern;

/**
 * Tests of one sentence each. A test quotes the words that it looks at, and these must stand in the document
 * under that promise; what bounds the document names and no test quotes is wrong, too.
 */
abstract class BoundsHelp extends CallsHelp {
    static final int NO = -1000000;
    static final int LEAST = Integer.MIN_VALUE;
    static final int MOST = Integer.MAX_VALUE;
    /** What stands ahead of the promises: the Terms and the constants. */
    static final int TERMS = 0;

    static final String TOWN = "town 3 4;person 00-1;person 0011;person 1101;person -012;"
        + "left 1;gloved 2;child 3;kin 0 1;counter 0";
    static final String RULE = "shake 3 - met if kin = 1;shake crowd * 2 - left";
    private static final String NAMES_A_BOUND =
        "\\d|NONE|nothing|nobody|without|at most|more than|below|never|empty|others|true|false|unlike|stays?\\b";

    private static final TreeMap<Integer, String> SECTIONS = sections();
    private static final TreeMap<Integer, List<String>> QUOTED = new TreeMap<>();
    private static String current = "";
    private static int tests = 0;
    private static int checks = 0;
    private static int wrong = 0;

    /** How an object has come to where it is. */
    interface Past extends Consumer<PalmCensus> {
    }

    static final Past NEW = x -> {
    };
    static final Past PLAIN = x -> town(x, TOWN);
    /** Of all that can be there some is: ACTS, TOLD, PALMS, RULES, IMAGES, a TAPE. */
    static final Past RICH = x -> {
        town(x, TOWN);
        rule(x, RULE);
        rule(x, "shake 1");
        x.force(0);
        x.go(3, 0, 1);
        x.image(1);
        x.glove(0, true);
        x.counter(1, true);
        x.night();
        x.told(1, 3, 4);
        x.palms(0, 2);
        x.seed(5);
        x.image(2);
        x.night();
        tape(x, "town 2 1;person 0;person 0;kin 0 1");
    };

    private static TreeMap<Integer, String> sections() {
        TreeMap<Integer, String> all = new TreeMap<>();
        try {
            String doc = Files.readString(Path.of("../shared/DOC.md"));
            int face = doc.indexOf("## The public face");
            all.put(TERMS, doc.substring(doc.indexOf("An object is used for"), face)
                + doc.substring(doc.indexOf("## Terms"), doc.indexOf("## Promise 1:")));
            Matcher m = Pattern.compile("(?s)## Promise (\\d+): [^\n]*\n\n`[^`]*`: (.*?)\n\n").matcher(doc);
            while (m.find()) {
                all.put(Integer.parseInt(m.group(1)), m.group(2));
            }
        } catch (IOException e) {
            throw new IllegalStateException(e);
        }
        return all;
    }

    static void test(int promise, String words, Runnable body) {
        current = (promise == TERMS ? "terms" : "promise " + promise) + ", \"" + words + "\"";
        tests++;
        int before = checks;
        QUOTED.computeIfAbsent(promise, p -> new ArrayList<>()).add(words);
        if (!SECTIONS.getOrDefault(promise, "").contains(words)) {
            say("the document does not have these words");
        }
        try {
            body.run();
        } catch (RuntimeException e) {
            say("threw " + e);
        }
        if (checks == before) {
            say("nothing was looked at");
        }
    }

    private static void say(String what) {
        wrong++;
        System.out.println(current + ": " + what);
    }

    static void due(String call, long got, long want) {
        checks++;
        if (got != want) {
            say(call + " answered " + got + ", due is " + want);
        }
    }

    static void yes(String call, boolean got) {
        due(call, got ? 1 : 0, 1);
    }

    static void no(String call, boolean got) {
        due(call, got ? 1 : 0, 0);
    }

    /** A call that answers this, and nothing happens by it. */
    static void idle(Past past, String call, ToLongFunction<PalmCensus> f, long want) {
        PalmCensus x = new PalmCensus();
        past.accept(x);
        due(call, f.applyAsLong(x), want);
        PalmCensus without = new PalmCensus();
        past.accept(without);
        same(call, x, without);
    }

    /** All that can be seen of two objects is the same; they are used up by it. */
    static void same(String what, PalmCensus got, PalmCensus want) {
        checks++;
        List<String> a = look(got);
        List<String> b = look(want);
        for (int i = 0; i < Math.max(a.size(), b.size()); i++) {
            String one = i < a.size() ? a.get(i) : "no more";
            String other = i < b.size() ? b.get(i) : "no more";
            if (!one.equals(other)) {
                say(what + ": there is\n  " + one + "\nin place of\n  " + other);
                return;
            }
        }
    }

    /** What there is now, then with all undone, in each image, by each rule, and by the tape. */
    private static List<String> look(PalmCensus x) {
        List<String> all = new ArrayList<>();
        all.add(seen(x));
        for (int more = x.undo(); more >= 0 && all.size() < 30; more = x.undo()) {
            all.add("undone, " + more + ": " + seen(x));
        }
        for (int k = 0; k < 4; k++) {
            all.add("image " + k + ", " + x.back(k) + ": " + seen(x) + " undone " + x.undo() + ": " + seen(x));
        }
        // The TAPE's bytes cannot be asked for, but what town() and rule() make of them can.
        all.add("the tape as a town, " + x.town() + ": " + seen(x));
        all.add("the tape as a rule, " + x.rule() + ": " + seen(x));
        town(x, TOWN);
        for (int r = -1; r < 6; r++) {
            all.add("rule " + r + ", " + x.force(r) + ": " + seen(x));
        }
        return all;
    }

    /** What the calls that ask tell of an object. */
    static String seen(PalmCensus x) {
        StringBuilder b = new StringBuilder("count");
        for (int what = 0; what < 13; what++) {
            b.append(' ').append(x.count(what));
        }
        b.append(" people");
        for (int p = 0; p < x.count(2); p++) {
            for (int h = 0; h < x.count(1); h++) {
                b.append(' ').append(x.at(p, h));
            }
            for (int what = 0; what < 5; what++) {
                b.append(' ').append(x.person(p, what));
            }
        }
        b.append(" sums");
        for (int h = 0; h < x.count(1); h++) {
            for (int g = 0; g < x.count(0); g++) {
                b.append(' ').append(x.crowd(g, h)).append(' ').append(x.sum(g, h)).append(' ').append(x.heard(g, h));
            }
        }
        b.append(" worlds");
        for (int what = 0; what < 5; what++) {
            b.append(' ').append(x.worlds(what));
        }
        return b.append(" total ").append(x.total()).append(" shuns ").append(x.shuns())
            .append(" drawn ").append(x.drawn(3, 50, 0)).toString();
    }

    /** Looks whether every bound that these promises name was quoted, and ends the program. */
    static void finish(int first, int last) {
        for (int promise = first; promise <= last; promise++) {
            String left = notQuoted(promise);
            Matcher m = Pattern.compile(NAMES_A_BOUND).matcher(left);
            if (left.isEmpty() || !QUOTED.containsKey(promise)) {
                wrong++;
                System.out.println("promise " + promise + " has no text or no test");
            } else if (m.find()) {
                wrong++;
                String near = left.substring(Math.max(0, m.start() - 40), Math.min(left.length(), m.start() + 40));
                System.out.println("promise " + promise + ": no test quotes \"" + near.replace("\n", " ") + "\"");
            }
        }
        System.out.println(wrong == 0 ? tests + " tests of bounds are as due" : wrong + " are not as due");
        if (wrong != 0) {
            System.exit(1);
        }
    }

    /** The text of a promise, all that some test quotes struck out. */
    private static String notQuoted(int promise) {
        String text = SECTIONS.getOrDefault(promise, "");
        StringBuilder left = new StringBuilder(text);
        for (String words : QUOTED.getOrDefault(promise, List.of())) {
            for (int at = text.indexOf(words); at >= 0; at = text.indexOf(words, at + 1)) {
                for (int i = at; i < at + words.length(); i++) {
                    left.setCharAt(i, '_');
                }
            }
        }
        return left.toString();
    }
}
