import java.util.ArrayList;
import java.util.Arrays;
import java.util.HashMap;
import java.util.List;
import java.util.Map;
import java.util.function.Predicate;
import java.util.function.ToLongFunction;

/** The document again, as plainly and as slowly as can be: every answer by trying all there is. */
public final class NaiveHelp {
    private static final int NONE = -1;
    private static final int HOME = 99;
    private static final List<String> FIRST_WORDS =
        List.of("town", "person", "left", "gloved", "child", "kin", "counter");
    private static final List<String> VALUE_WORDS =
        List.of("one", "other", "gate", "hour", "day", "met", "kin", "left", "gloves", "children", "crowd");

    private static final class Fault extends RuntimeException {
        private static final long serialVersionUID = 1L;
        final int number;

        Fault(int place, int kind) {
            super(null, null, false, false);
            number = 1 + 8 * place + kind;
        }
    }

    private record Clause(ToLongFunction<Map<String, Long>> sum, Predicate<Map<String, Long>> test) {
    }

    private static final class State {
        boolean is = false;
        int gates = 0;
        int hours = 0;
        int day = 0;
        List<int[]> rows = new ArrayList<>();
        boolean[] left = new boolean[10];
        boolean[] gloved = new boolean[10];
        boolean[] child = new boolean[10];
        boolean[][] kin = new boolean[10][10];
        boolean[] counter = new boolean[6];
        List<int[]> told = new ArrayList<>();
        int[] palms = new int[10];
        List<State> before = new ArrayList<>();
        int force = NONE;
        int x = 0;

        State() {
            Arrays.fill(palms, NONE);
        }

        State(State s) {
            is = s.is;
            gates = s.gates;
            hours = s.hours;
            day = s.day;
            for (int[] row : s.rows) {
                rows.add(row.clone());
            }
            left = s.left.clone();
            gloved = s.gloved.clone();
            child = s.child.clone();
            for (int i = 0; i < 10; i++) {
                kin[i] = s.kin[i].clone();
            }
            counter = s.counter.clone();
            told = new ArrayList<>(s.told);
            palms = s.palms.clone();
            before = new ArrayList<>(s.before);
            force = s.force;
            x = s.x;
        }

        boolean person(int p) {
            return p >= 0 && p < rows.size();
        }

        boolean hour(int h) {
            return h >= 0 && h < hours;
        }

        boolean gate(int g) {
            return g >= 0 && g < gates;
        }

        boolean meet(int a, int b, int h) {
            return a != b && rows.get(a)[h] != HOME && rows.get(a)[h] == rows.get(b)[h];
        }

        boolean meetAtAll(int a, int b) {
            for (int h = 0; h < hours; h++) {
                if (meet(a, b, h)) {
                    return true;
                }
            }
            return false;
        }
    }

    private final List<Integer> tape = new ArrayList<>();
    private final List<List<Clause>> rules = new ArrayList<>();
    private State s = new State();
    private final State[] images = new State[4];

    // ---- texts

    private int place = 0;
    private int counted = 0;

    private int here() {
        return place < tape.size() ? tape.get(place) : -1;
    }

    private void blanks() {
        while (here() == 32) {
            place++;
        }
    }

    private static boolean letter(int b) {
        return b >= 'a' && b <= 'z';
    }

    private static boolean digit(int b) {
        return b >= '0' && b <= '9';
    }

    private String seeWord() {
        StringBuilder b = new StringBuilder();
        for (int i = place; i < tape.size() && letter(tape.get(i)); i++) {
            b.append((char) (int) tape.get(i));
        }
        return b.toString();
    }

    private boolean isWord(String w) {
        blanks();
        if (!seeWord().equals(w)) {
            return false;
        }
        place += w.length();
        return true;
    }

    private int number(int least, int most) {
        blanks();
        int from = place;
        StringBuilder b = new StringBuilder();
        while (digit(here())) {
            b.append((char) here());
            place++;
        }
        if (b.length() == 0) {
            throw new Fault(from, 0);
        }
        if (b.length() > 5) {
            throw new Fault(from, 1);
        }
        int v = Integer.parseInt(b.toString());
        if (v < least || v > most) {
            throw new Fault(from, 1);
        }
        return v;
    }

    private boolean another() {
        blanks();
        if (place == tape.size()) {
            return false;
        }
        if (here() != ';') {
            throw new Fault(place, 0);
        }
        place++;
        return true;
    }

    private State readTown() {
        place = 0;
        State t = new State();
        t.is = true;
        int clauses = 0;
        do {
            blanks();
            int first = place;
            String w = seeWord();
            if (!FIRST_WORDS.contains(w)) {
                throw new Fault(first, 0);
            }
            clauses++;
            if (clauses > 40 || w.equals("town") != (clauses == 1) || w.equals("person") && t.rows.size() == 10) {
                throw new Fault(first, 4);
            }
            place += w.length();
            if (w.equals("town")) {
                t.gates = number(2, 6);
                t.hours = number(1, 12);
            } else if (w.equals("person")) {
                blanks();
                int[] row = new int[t.hours];
                for (int h = 0; h < t.hours; h++, place++) {
                    if (here() == '-') {
                        row[h] = HOME;
                    } else if (!digit(here())) {
                        throw new Fault(place, 0);
                    } else if (here() - '0' >= t.gates) {
                        throw new Fault(place, 1);
                    } else {
                        row[h] = here() - '0';
                    }
                }
                t.rows.add(row);
            } else if (w.equals("kin")) {
                int a = number(0, t.rows.size() - 1);
                blanks();
                int at = place;
                int b = number(0, t.rows.size() - 1);
                if (a == b) {
                    throw new Fault(at, 1);
                }
                t.kin[a][b] = true;
                t.kin[b][a] = true;
            } else if (w.equals("counter")) {
                t.counter[number(0, t.gates - 1)] = true;
            } else {
                (w.equals("left") ? t.left : w.equals("gloved") ? t.gloved : t.child)[number(0, t.rows.size() - 1)] = true;
            }
        } while (another());
        return t;
    }

    private List<Clause> readRule() {
        place = 0;
        counted = 0;
        List<Clause> all = new ArrayList<>();
        do {
            blanks();
            int first = place;
            if (!isWord("shake")) {
                throw new Fault(first, 0);
            }
            if (all.size() == 12) {
                throw new Fault(first, 4);
            }
            ToLongFunction<Map<String, Long>> sum = sumOf();
            all.add(new Clause(sum, isWord("if") ? testOf(0) : m -> true));
        } while (another());
        return all;
    }

    private void countOne(int at) {
        if (counted == 60) {
            throw new Fault(at, 3);
        }
        counted++;
    }

    private Predicate<Map<String, Long>> testOf(int depth) {
        Predicate<Map<String, Long>> p = partOf(depth);
        while (isWord("or")) {
            p = p.or(partOf(depth));
        }
        return p;
    }

    private Predicate<Map<String, Long>> partOf(int depth) {
        Predicate<Map<String, Long>> p = factOf(depth);
        while (isWord("and")) {
            p = p.and(factOf(depth));
        }
        return p;
    }

    private Predicate<Map<String, Long>> factOf(int depth) {
        blanks();
        int at = place;
        if (isWord("not")) {
            if (depth == 10) {
                throw new Fault(at, 2);
            }
            return factOf(depth + 1).negate();
        }
        if (here() == '[') {
            if (depth == 10) {
                throw new Fault(at, 2);
            }
            place++;
            Predicate<Map<String, Long>> p = testOf(depth + 1);
            blanks();
            if (here() != ']') {
                throw new Fault(place, 0);
            }
            place++;
            return p;
        }
        ToLongFunction<Map<String, Long>> a = sumOf();
        blanks();
        at = place;
        int sign = here();
        if (sign != '<' && sign != '>' && sign != '=') {
            throw new Fault(at, 0);
        }
        countOne(at);
        place++;
        boolean also = sign != '=' && here() == '=';
        if (also) {
            place++;
        }
        ToLongFunction<Map<String, Long>> b = sumOf();
        return m -> {
            int c = Long.compare(a.applyAsLong(m), b.applyAsLong(m));
            return c == 0 ? also || sign == '=' : sign == (c < 0 ? '<' : '>');
        };
    }

    private ToLongFunction<Map<String, Long>> sumOf() {
        ToLongFunction<Map<String, Long>> sum = termOf();
        for (blanks(); here() == '+' || here() == '-'; blanks()) {
            boolean plus = here() == '+';
            place++;
            ToLongFunction<Map<String, Long>> a = sum;
            ToLongFunction<Map<String, Long>> b = termOf();
            sum = m -> plus ? a.applyAsLong(m) + b.applyAsLong(m) : a.applyAsLong(m) - b.applyAsLong(m);
        }
        return sum;
    }

    private ToLongFunction<Map<String, Long>> termOf() {
        ToLongFunction<Map<String, Long>> term = valueOf();
        for (blanks(); here() == '*' || here() == '/' || here() == '%'; blanks()) {
            int sign = here();
            place++;
            ToLongFunction<Map<String, Long>> a = term;
            ToLongFunction<Map<String, Long>> b = valueOf();
            term = m -> {
                long x = a.applyAsLong(m);
                long y = b.applyAsLong(m);
                return sign == '*' ? x * y : y == 0 ? 0 : sign == '/' ? x / y : x % y;
            };
        }
        return term;
    }

    private ToLongFunction<Map<String, Long>> valueOf() {
        blanks();
        int at = place;
        if (digit(here())) {
            long v = number(0, 99999);
            countOne(at);
            return m -> v;
        }
        String w = seeWord();
        if (!VALUE_WORDS.contains(w)) {
            throw new Fault(at, 0);
        }
        countOne(at);
        place += w.length();
        return m -> m.get(w);
    }

    // ---- what counts

    private static int bits(State t, Predicate<Integer> is) {
        int set = 0;
        for (int p = 0; p < t.rows.size(); p++) {
            set |= is.test(p) ? 1 << p : 0;
        }
        return set;
    }

    private long b(boolean is) {
        return is ? 1 : 0;
    }

    private int gift(State t, int p) {
        return t.gloved[p] ? 0 : (t.child[p] ? 1 : 2) * (t.left[p] ? -1 : 1);
    }

    private int worth(State t, int world, int a, int c, int h) {
        int one = Math.min(a, c);
        int other = Math.max(a, c);
        long met = 0;
        for (int i = 0; i < h; i++) {
            met += b(t.meet(one, other, i));
        }
        if (t.force == NONE) {
            return met > 0 ? 0 : (gift(t, one) + gift(t, other)) * (t.kin[one][other] ? 2 : 1);
        }
        Map<String, Long> m = new HashMap<>();
        m.put("one", (long) one);
        m.put("other", (long) other);
        int g = t.rows.get(one)[h];
        m.put("gate", (long) g);
        m.put("hour", (long) h);
        m.put("day", (long) t.day);
        m.put("met", met);
        m.put("kin", b(t.kin[one][other]));
        m.put("left", b(t.left[one]) + b(t.left[other]));
        m.put("gloves", b(t.gloved[one]) + b(t.gloved[other]));
        m.put("children", b(t.child[one]) + b(t.child[other]));
        long crowd = 0;
        for (int p = 0; p < t.rows.size(); p++) {
            crowd += b((world >> p & 1) != 0 && t.rows.get(p)[h] == g);
        }
        m.put("crowd", crowd);
        for (Clause clause : rules.get(t.force)) {
            if (clause.test.test(m)) {
                long v = clause.sum.applyAsLong(m);
                return v > 999 ? 999 : v < -999 ? -999 : (int) v;
            }
        }
        return 0;
    }

    private int sumIn(State t, int world, int g, int h) {
        int sum = 0;
        for (int a = 0; a < t.rows.size(); a++) {
            for (int c = 0; c < a; c++) {
                boolean there = (world >> a & 1) != 0 && (world >> c & 1) != 0;
                if (there && t.meet(a, c, h) && t.rows.get(a)[h] == g) {
                    sum += worth(t, world, a, c, h);
                }
            }
        }
        return sum;
    }

    private int totalOf(State t) {
        int sum = 0;
        for (int g = 0; g < t.gates; g++) {
            for (int h = 0; h < t.hours; h++) {
                sum += sumIn(t, -1, g, h);
            }
        }
        return sum;
    }

    private boolean fits(int world) {
        for (int[] told : s.told) {
            if (sumIn(s, world, told[0], told[1]) != told[2]) {
                return false;
            }
        }
        return true;
    }

    private List<Integer> fitting() {
        List<Integer> all = new ArrayList<>();
        for (int w = 0; w < 1 << s.rows.size(); w++) {
            if (fits(w)) {
                all.add(w);
            }
        }
        return all;
    }

    private List<int[]> twos() {
        List<int[]> all = new ArrayList<>();
        for (int a = 0; a < s.rows.size(); a++) {
            for (int c = a + 1; c < s.rows.size(); c++) {
                if (s.meetAtAll(a, c)) {
                    all.add(new int[] {a, c});
                }
            }
        }
        return all;
    }

    private List<Integer> shunSets() {
        List<int[]> twos = twos();
        List<Integer> all = new ArrayList<>();
        for (int set = 0; set < 1 << twos.size(); set++) {
            int[] hands = new int[10];
            for (int i = 0; i < twos.size(); i++) {
                if ((set >> i & 1) != 0) {
                    hands[twos.get(i)[0]]++;
                    hands[twos.get(i)[1]]++;
                }
            }
            boolean so = true;
            for (int p = 0; p < s.rows.size(); p++) {
                so &= s.palms[p] == NONE || s.palms[p] == hands[p];
            }
            if (so) {
                all.add(set);
            }
        }
        return all;
    }

    private void act() {
        State was = new State(s);
        was.before = new ArrayList<>();
        s.before.add(was);
        if (s.before.size() > 20) {
            s.before.remove(0);
        }
    }

    // ---- the face

    public int feed(int a, int b, int c, int d, int e) {
        if (tape.size() + 20 > 400) {
            return NONE;
        }
        for (int v : new int[] {a, b, c, d, e}) {
            tape.add(v >>> 24);
            tape.add(v >>> 16 & 255);
            tape.add(v >>> 8 & 255);
            tape.add(v & 255);
        }
        return tape.size();
    }

    public int end(int n) {
        if (n < 0 || n > tape.size()) {
            return NONE;
        }
        while (tape.size() > n) {
            tape.remove(tape.size() - 1);
        }
        return n;
    }

    public int town() {
        try {
            State t = readTown();
            t.force = s.force;
            t.x = s.x;
            s = t;
            tape.clear();
            return s.rows.size();
        } catch (Fault f) {
            return -2 - f.number;
        }
    }

    public int rule() {
        if (rules.size() == 6) {
            return NONE;
        }
        try {
            rules.add(readRule());
            return rules.size() - 1;
        } catch (Fault f) {
            return -2 - f.number;
        } finally {
            tape.clear();
        }
    }

    public int force(int rule) {
        if (rule != NONE && (rule < 0 || rule >= rules.size())) {
            return -2;
        }
        int was = s.force;
        s.force = rule;
        return was;
    }

    public int at(int person, int hour) {
        return s.person(person) && s.hour(hour) ? s.rows.get(person)[hour] : NONE;
    }

    public int person(int person, int what) {
        if (!s.person(person) || what < 0 || what > 4) {
            return NONE;
        }
        return switch (what) {
            case 0 -> (int) b(s.left[person]);
            case 1 -> (int) b(s.gloved[person]);
            case 2 -> (int) b(s.child[person]);
            case 3 -> bits(s, p -> s.kin[person][p]);
            default -> bits(s, p -> s.meetAtAll(person, p));
        };
    }

    public int crowd(int gate, int hour) {
        return s.gate(gate) && s.hour(hour) ? bits(s, p -> s.rows.get(p)[hour] == gate) : NONE;
    }

    public int shake(int one, int other, int hour) {
        boolean can = s.person(one) && s.person(other) && s.hour(hour) && s.meet(one, other, hour);
        return can ? worth(s, -1, one, other, hour) : -1000;
    }

    public int sum(int gate, int hour) {
        return s.gate(gate) && s.hour(hour) ? sumIn(s, -1, gate, hour) : -1000000;
    }

    public int heard(int gate, int hour) {
        return s.gate(gate) && s.hour(hour) && s.counter[gate] ? sumIn(s, -1, gate, hour) : -1000000;
    }

    public int total() {
        return totalOf(s);
    }

    public int street(int gates, int from, int to) {
        if (!s.hour(from) || !s.hour(to) || to < from || gates < 0 || gates >> s.gates != 0) {
            return -1000000;
        }
        int sum = 0;
        for (int h = from; h <= to; h++) {
            for (int g = 0; g < s.gates; g++) {
                sum += (gates >> g & 1) * sumIn(s, -1, g, h);
            }
        }
        return sum;
    }

    public int busy(int what) {
        if (!s.is || what < 0 || what > 1) {
            return NONE;
        }
        int most = Integer.MIN_VALUE;
        int[] best = null;
        for (int h = 0; h < s.hours; h++) {
            for (int g = 0; g < s.gates; g++) {
                if (sumIn(s, -1, g, h) > most) {
                    most = sumIn(s, -1, g, h);
                    best = new int[] {g, h};
                }
            }
        }
        return best[what];
    }

    public int go(int person, int hour, int gate) {
        boolean can = s.person(person) && s.hour(hour) && (gate == HOME || s.gate(gate));
        if (!can || s.rows.get(person)[hour] == gate) {
            return -1000000;
        }
        act();
        s.rows.get(person)[hour] = gate;
        return totalOf(s);
    }

    public boolean glove(int person, boolean is) {
        if (!s.person(person) || s.gloved[person] == is) {
            return false;
        }
        act();
        s.gloved[person] = is;
        return true;
    }

    public boolean counter(int gate, boolean is) {
        if (!s.gate(gate) || s.counter[gate] == is) {
            return false;
        }
        act();
        s.counter[gate] = is;
        return true;
    }

    public int night() {
        if (!s.is || s.day == 9999) {
            return NONE;
        }
        act();
        return ++s.day;
    }

    public int undo() {
        if (s.before.isEmpty()) {
            return -2;
        }
        State was = s.before.remove(s.before.size() - 1);
        s.rows = new State(was).rows;
        s.gloved = was.gloved.clone();
        s.counter = was.counter.clone();
        s.day = was.day;
        return s.before.size();
    }

    public int told(int gate, int hour, int sum) {
        if (gate == NONE) {
            s.told.clear();
            return 0;
        }
        if (!s.gate(gate) || !s.hour(hour) || sum < -100000 || sum > 100000 || s.told.size() == 10) {
            return -2;
        }
        s.told.add(new int[] {gate, hour, sum});
        return s.told.size();
    }

    public int worlds(int what) {
        if (!s.is || what < 0 || what > 4) {
            return NONE;
        }
        List<Integer> fit = fitting();
        if (what == 0) {
            return fit.size();
        }
        if (fit.isEmpty()) {
            return what < 3 ? -2 : 0;
        }
        return switch (what) {
            case 1 -> fit.stream().mapToInt(Integer::bitCount).min().getAsInt();
            case 2 -> fit.stream().mapToInt(Integer::bitCount).max().getAsInt();
            case 3 -> bits(s, p -> fit.stream().allMatch(w -> (w >> p & 1) != 0));
            default -> bits(s, p -> fit.stream().noneMatch(w -> (w >> p & 1) != 0));
        };
    }

    public int ask(int what) {
        if (!s.is || what < 0 || what > 2) {
            return NONE;
        }
        List<Integer> fit = fitting();
        if (fit.isEmpty()) {
            return -2;
        }
        int[] best = null;
        for (int h = 0; h < s.hours; h++) {
            for (int g = 0; g < s.gates; g++) {
                Map<Integer, Integer> classes = new HashMap<>();
                for (int w : fit) {
                    classes.merge(sumIn(s, w, g, h), 1, Integer::sum);
                }
                int most = classes.values().stream().mapToInt(v -> v).max().getAsInt();
                if (best == null || most < best[2]) {
                    best = new int[] {g, h, most};
                }
            }
        }
        return best[what];
    }

    public int gates(int what) {
        if (!s.is || what < 0 || what > 1) {
            return NONE;
        }
        if (s.rows.size() > 8) {
            return -3;
        }
        int best = -1;
        for (int set = 0; set < 1 << s.gates; set++) {
            if ((best < 0 || Integer.bitCount(set) < Integer.bitCount(best)) && isSureBy(set)) {
                best = set;
            }
        }
        return best < 0 ? -2 : what == 0 ? Integer.bitCount(best) : best;
    }

    private boolean isSureBy(int set) {
        Map<String, Integer> numbers = new HashMap<>();
        for (int w = 0; w < 1 << s.rows.size(); w++) {
            StringBuilder sums = new StringBuilder();
            for (int g = 0; g < s.gates; g++) {
                for (int h = 0; h < s.hours && (set >> g & 1) != 0; h++) {
                    sums.append(sumIn(s, w, g, h)).append(',');
                }
            }
            Integer was = numbers.putIfAbsent(sums.toString(), Integer.bitCount(w));
            if (was != null && was != Integer.bitCount(w)) {
                return false;
            }
        }
        return true;
    }

    public int cheat(int person, int what) {
        if (!s.person(person) || what < 0 || what > 2) {
            return -1000000;
        }
        int[] best = null;
        for (int h = 0; h < s.hours; h++) {
            for (int g = -1; g < s.gates; g++) {
                int to = g < 0 ? HOME : g;
                State t = new State(s);
                if (t.rows.get(person)[h] != to) {
                    t.rows.get(person)[h] = to;
                    int total = totalOf(t);
                    if (best == null || total > best[0]) {
                        best = new int[] {total, h, to};
                    }
                }
            }
        }
        return best[what];
    }

    public int odd(int what) {
        if (!s.is || what < 0 || what > 1) {
            return NONE;
        }
        int best = -1;
        for (int set = 0; set < 1 << s.rows.size(); set++) {
            if (best >= 0 && Integer.bitCount(set) >= Integer.bitCount(best)) {
                continue;
            }
            State t = new State(s);
            for (int p = 0; p < s.rows.size(); p++) {
                t.gloved[p] ^= (set >> p & 1) != 0;
            }
            if (totalOf(t) % 2 != 0) {
                best = set;
            }
        }
        return best < 0 ? -2 : what == 0 ? Integer.bitCount(best) : best;
    }

    public boolean palms(int person, int n) {
        if (!s.person(person) || n < -1 || n > 9) {
            return false;
        }
        s.palms[person] = n;
        return true;
    }

    public int shuns() {
        return !s.is ? NONE : twos().size() > 16 ? -3 : shunSets().size();
    }

    public int shook(int one, int other) {
        if (!s.person(one) || !s.person(other) || one == other || !s.meetAtAll(one, other)) {
            return NONE;
        }
        List<int[]> twos = twos();
        if (twos.size() > 16) {
            return -3;
        }
        boolean some = false;
        boolean other0 = false;
        for (int set : shunSets()) {
            for (int i = 0; i < twos.size(); i++) {
                if (twos.get(i)[0] == Math.min(one, other) && twos.get(i)[1] == Math.max(one, other)) {
                    some |= (set >> i & 1) != 0;
                    other0 |= (set >> i & 1) == 0;
                }
            }
        }
        return some ? (other0 ? 2 : 1) : other0 ? 0 : -2;
    }

    private int having(int from, int hour) {
        boolean[] has = new boolean[10];
        has[from] = true;
        for (int h = 0; h <= hour; h++) {
            boolean[] then = has.clone();
            for (int a = 0; a < s.rows.size(); a++) {
                for (int c = 0; c < s.rows.size(); c++) {
                    then[c] |= has[a] && s.meet(a, c, h);
                }
            }
            has = then;
        }
        boolean[] end = has;
        return bits(s, p -> end[p]);
    }

    public int passes(int from, int to) {
        if (!s.person(from) || !s.person(to)) {
            return -3;
        }
        if (from == to) {
            return NONE;
        }
        for (int h = 0; h < s.hours; h++) {
            if ((having(from, h) >> to & 1) != 0) {
                return h;
            }
        }
        return -2;
    }

    public int have(int from, int hour) {
        return s.person(from) && s.hour(hour) ? having(from, hour) : NONE;
    }

    public int islands() {
        if (!s.is) {
            return NONE;
        }
        int n = s.rows.size();
        int[] of = new int[n];
        for (int p = 0; p < n; p++) {
            of[p] = p;
        }
        for (int[] two : twos()) {
            int from = of[two[0]];
            int to = of[two[1]];
            for (int p = 0; p < n; p++) {
                of[p] = of[p] == from ? to : of[p];
            }
        }
        return (int) Arrays.stream(of).distinct().count();
    }

    public int rounds(int people, int gates) {
        if (people < 0 || people >> s.rows.size() != 0 || gates < 1 || gates > 6) {
            return NONE;
        }
        int n = Integer.bitCount(people);
        int hours = 0;
        // SchedulesTest has the days themselves.
        for (int left = n * (n - 1) / 2; left > 0; left -= Math.min(gates, n / 2)) {
            hours++;
        }
        return hours;
    }

    public int census() {
        if (!s.is) {
            return NONE;
        }
        long best = Long.MAX_VALUE;
        int n = 0;
        for (long i = 0; i < 2000; i++) {
            long off = Math.abs(i * (i - 1) - totalOf(s));
            if (off <= best) {
                best = off;
                n = (int) i;
            }
            if (off > best && i > 2) {
                break;
            }
        }
        return n;
    }

    public int seed(int x) {
        if (x < 0) {
            return NONE;
        }
        int was = s.x;
        s.x = x;
        return was;
    }

    public int drawn(int m, int p, int what) {
        if (!s.is || m < 1 || m > 20 || p < 0 || p > 100 || what < 0 || what > 2) {
            return -1000000;
        }
        long x = s.x;
        int[] all = new int[3];
        for (int i = 0; i < m; i++) {
            State t = new State(s);
            for (int[] row : t.rows) {
                for (int h = 0; h < t.hours; h++) {
                    x = (x * 1103515245L + 12345L) % 2147483648L;
                    if (x / 65536 % 100 < p) {
                        x = (x * 1103515245L + 12345L) % 2147483648L;
                        int to = (int) (x / 65536 % (t.gates + 1));
                        row[h] = to == t.gates ? HOME : to;
                    }
                }
            }
            int total = totalOf(t);
            all[0] += total;
            all[1] += total % 2 != 0 ? 1 : 0;
            all[2] += total == totalOf(s) ? 1 : 0;
        }
        return all[what];
    }

    public int count(int what) {
        return switch (what) {
            case 0 -> s.gates;
            case 1 -> s.hours;
            case 2 -> s.rows.size();
            case 3 -> rules.size();
            case 4 -> s.force;
            case 5 -> s.day;
            case 6 -> {
                int set = 0;
                for (int g = 0; g < 6; g++) {
                    set += s.counter[g] ? 1 << g : 0;
                }
                yield set;
            }
            case 7 -> twos().size();
            case 8 -> s.told.size();
            case 9 -> (int) Arrays.stream(s.palms).filter(n -> n != NONE).count();
            case 10 -> s.before.size();
            case 11 -> s.x;
            case 12 -> tape.size();
            default -> NONE;
        };
    }

    public int image(int k) {
        if (k < 0 || k > 3) {
            return NONE;
        }
        images[k] = new State(s);
        return s.day;
    }

    public int back(int k) {
        if (k < 0 || k > 3 || images[k] == null) {
            return NONE;
        }
        s = new State(images[k]);
        return s.day;
    }
}
