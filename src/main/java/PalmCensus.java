import java.util.Arrays;

/** A town counted by handshakes; shared/DOC.md says what each call promises. */
public final class PalmCensus {
    public static final int NONE = -1;

    private static final int HOME = 99;
    private static final int REFUSED = -2;
    private static final int TOO_MANY = -3;
    private static final int NO_SUM = -1000000;
    private static final int NO_SHAKE = -1000;
    private static final int MOST_BYTES = 400;
    private static final int FEED_BYTES = 20;
    private static final int MOST_GATES = 6;
    private static final int MOST_HOURS = 12;
    private static final int MOST_PEOPLE = 10;
    private static final int MOST_WORLDS = 1 << MOST_PEOPLE;
    private static final int MOST_RULES = 6;
    private static final int MOST_IMAGES = 4;
    private static final int MOST_TOLD = 10;
    private static final int MOST_TOLD_SUM = 100000;
    private static final int MOST_PALMS = 9;
    private static final int MOST_ACTS = 20;
    private static final int MOST_SHUN_TWOS = 16;
    private static final int MOST_COUNTED_PEOPLE = 8;
    private static final int LAST_DAY = 9999;

    /** No TOTAL is above 12 hours * 45 twos * 999, and 736 * 735 is above that. */
    private static final int MOST_CENSUS = 736;

    private static final int ACT_GO = 0;
    private static final int ACT_GLOVE = 1;
    private static final int ACT_COUNTER = 2;
    private static final int ACT_NIGHT = 3;

    private final Tape tape = new Tape();
    private final TownReader townReader = new TownReader(tape);
    private final RuleReader ruleReader = new RuleReader(tape);
    private final Rule[] rules = new Rule[MOST_RULES];
    private int ruleCount = 0;
    private final Memory now = new Memory();
    private final Memory[] images = new Memory[MOST_IMAGES];
    private final Town trial = new Town();
    private final Shaker shaker = new Shaker();
    private final Worlds inquiry = new Worlds();
    private final Parity parity = new Parity();
    private final Shuns shunning = new Shuns();
    private final Best best = new Best();

    public PalmCensus() {
    }

    public int feed(int a, int b, int c, int d, int e) {
        if (tape.length + FEED_BYTES > MOST_BYTES) {
            return NONE;
        }
        tape.put(a);
        tape.put(b);
        tape.put(c);
        tape.put(d);
        tape.put(e);
        return tape.length;
    }

    public int end(int n) {
        if (n < 0 || n > tape.length) {
            return NONE;
        }
        tape.length = n;
        return n;
    }

    public int town() {
        if (!townReader.readTown()) {
            return -2 - tape.fault;
        }
        now.settle(townReader.town);
        tape.length = 0;
        return now.town.people;
    }

    public int rule() {
        if (ruleCount >= MOST_RULES) {
            return NONE;
        }
        boolean isRule = ruleReader.readRule();
        // Promise 5 keeps the TAPE behind NONE alone, unlike promise 4, by which all stays behind a FAULT.
        tape.length = 0;
        if (!isRule) {
            return -2 - tape.fault;
        }
        rules[ruleCount] = ruleReader.made();
        return ruleCount++;
    }

    public int force(int rule) {
        if (rule < NONE || rule >= ruleCount) {
            return REFUSED;
        }
        int was = now.force;
        now.force = rule;
        return was;
    }

    public int at(int person, int hour) {
        return now.town.isPerson(person) && now.town.isHour(hour) ? now.town.placeOf(person, hour) : NONE;
    }

    public int person(int person, int what) {
        Town town = now.town;
        if (!town.isPerson(person)) {
            return NONE;
        }
        switch (what) {
            case 0:
                return town.left >> person & 1;
            case 1:
                return town.gloved >> person & 1;
            case 2:
                return town.children >> person & 1;
            case 3:
                return town.kin[person];
            case 4:
                return town.company(person);
            default:
                return NONE;
        }
    }

    public int crowd(int gate, int hour) {
        return isSpot(gate, hour) ? now.town.those(gate, hour) : NONE;
    }

    public int shake(int one, int other, int hour) {
        Town town = now.town;
        if (!town.isPerson(one) || !town.isPerson(other) || !town.isHour(hour)) {
            return NO_SHAKE;
        }
        if (one == other || !town.areTogether(one, other, hour)) {
            return NO_SHAKE;
        }
        int size = Integer.bitCount(town.those(town.placeOf(one, hour), hour));
        return counting().worthOf(town, Math.min(one, other), Math.max(one, other), hour, size);
    }

    public int sum(int gate, int hour) {
        return isSpot(gate, hour) ? counting().sumOf(now.town, gate, hour) : NO_SUM;
    }

    public int heard(int gate, int hour) {
        if (!isSpot(gate, hour) || (now.town.counters >> gate & 1) == 0) {
            return NO_SUM;
        }
        return counting().sumOf(now.town, gate, hour);
    }

    public int total() {
        return counting().totalOf(now.town);
    }

    public int street(int gates, int from, int to) {
        Town town = now.town;
        if (gates < 0 || gates >= 1 << town.gates || !town.isHour(from) || !town.isHour(to) || to < from) {
            return NO_SUM;
        }
        return counting().streetOf(town, gates, from, to);
    }

    public int busy(int what) {
        if (what < 0 || what > 1 || !hasTown()) {
            return NONE;
        }
        best.forget();
        for (int hour = 0; hour < now.town.hours; hour++) {
            for (int gate = 0; gate < now.town.gates; gate++) {
                best.offer(counting().sumOf(now.town, gate, hour), hour, gate);
            }
        }
        return what == 0 ? best.place : best.hour;
    }

    public int go(int person, int hour, int gate) {
        Town town = now.town;
        if (!town.isPerson(person) || !town.isHour(hour) || !town.isPlace(gate)) {
            return NO_SUM;
        }
        int was = town.placeOf(person, hour);
        if (was == gate) {
            return NO_SUM;
        }
        now.remember(ACT_GO, person, hour, was);
        town.moveTo(person, hour, gate);
        return counting().totalOf(town);
    }

    public boolean glove(int person, boolean is) {
        Town town = now.town;
        int then = is ? 1 : 0;
        if (!town.isPerson(person) || (town.gloved >> person & 1) == then) {
            return false;
        }
        now.remember(ACT_GLOVE, person, 0, 0);
        town.gloved ^= 1 << person;
        return true;
    }

    public boolean counter(int gate, boolean is) {
        Town town = now.town;
        int then = is ? 1 : 0;
        if (!town.isGate(gate) || (town.counters >> gate & 1) == then) {
            return false;
        }
        now.remember(ACT_COUNTER, gate, 0, 0);
        town.counters ^= 1 << gate;
        return true;
    }

    public int night() {
        if (!hasTown() || now.town.day >= LAST_DAY) {
            return NONE;
        }
        now.remember(ACT_NIGHT, 0, 0, 0);
        now.town.day++;
        return now.town.day;
    }

    public int undo() {
        return now.takeBack() ? now.acts : REFUSED;
    }

    public int told(int gate, int hour, int sum) {
        if (gate == NONE) {
            now.toldCount = 0;
            return 0;
        }
        if (!isSpot(gate, hour) || sum < -MOST_TOLD_SUM || sum > MOST_TOLD_SUM || now.toldCount >= MOST_TOLD) {
            return REFUSED;
        }
        now.toldGate[now.toldCount] = gate;
        now.toldHour[now.toldCount] = hour;
        now.toldSum[now.toldCount] = sum;
        now.toldCount++;
        return now.toldCount;
    }

    public int worlds(int what) {
        if (what < 0 || what > 4 || !hasTown()) {
            return NONE;
        }
        inquiry.findFitting(counting(), now);
        switch (what) {
            case 0:
                return inquiry.fitting;
            case 1:
                return inquiry.fitting == 0 ? REFUSED : inquiry.fewest;
            case 2:
                return inquiry.fitting == 0 ? REFUSED : inquiry.most;
            case 3:
                return inquiry.fitting == 0 ? 0 : inquiry.inEach;
            default:
                return inquiry.fitting == 0 ? 0 : inquiry.inNone;
        }
    }

    public int ask(int what) {
        if (what < 0 || what > 2 || !hasTown()) {
            return NONE;
        }
        inquiry.findFitting(counting(), now);
        if (inquiry.fitting == 0) {
            return REFUSED;
        }
        inquiry.findQuestion(counting(), now.town, best);
        switch (what) {
            case 0:
                return best.place;
            case 1:
                return best.hour;
            default:
                return -best.value;
        }
    }

    public int gates(int what) {
        if (what < 0 || what > 1 || !hasTown()) {
            return NONE;
        }
        if (now.town.people > MOST_COUNTED_PEOPLE) {
            return TOO_MANY;
        }
        // Nobody there and one alone there give the SUM 0 at every GATE in every HOUR, and are not
        // equally many: no set of GATES parts them. Only where nobody lives is the number sure, by none.
        return now.town.people == 0 ? 0 : REFUSED;
    }

    public int cheat(int person, int what) {
        if (!now.town.isPerson(person) || what < 0 || what > 2) {
            return NO_SUM;
        }
        trial.copyFrom(now.town);
        counting().findCheat(trial, person, best);
        switch (what) {
            case 0:
                return best.value;
            case 1:
                return best.hour;
            default:
                return best.place;
        }
    }

    public int odd(int what) {
        if (what < 0 || what > 1 || !hasTown()) {
            return NONE;
        }
        trial.copyFrom(now.town);
        parity.learn(counting(), trial);
        int turned = parity.fewestTurned(now.town.people, now.town.gloved);
        if (turned == NONE) {
            return REFUSED;
        }
        return what == 0 ? Integer.bitCount(turned) : turned;
    }

    public boolean palms(int person, int n) {
        if (!now.town.isPerson(person) || n < NONE || n > MOST_PALMS) {
            return false;
        }
        now.palms[person] = n;
        return true;
    }

    public int shuns() {
        if (!hasTown()) {
            return NONE;
        }
        if (now.town.meetingTwos() > MOST_SHUN_TWOS) {
            return TOO_MANY;
        }
        shunning.learn(now);
        return shunning.waysWith(NONE);
    }

    public int shook(int one, int other) {
        Town town = now.town;
        if (!town.isPerson(one) || !town.isPerson(other) || (town.company(one) >> other & 1) == 0) {
            return NONE;
        }
        if (town.meetingTwos() > MOST_SHUN_TWOS) {
            return TOO_MANY;
        }
        shunning.learn(now);
        int all = shunning.waysWith(NONE);
        if (all == 0) {
            return REFUSED;
        }
        int shaken = shunning.waysWith(shunning.numberOf(Math.min(one, other), Math.max(one, other)));
        if (shaken == 0) {
            return 0;
        }
        return shaken == all ? 1 : 2;
    }

    public int passes(int from, int to) {
        Town town = now.town;
        if (!town.isPerson(from) || !town.isPerson(to)) {
            return -3;
        }
        if (from == to) {
            return NONE;
        }
        int having = 1 << from;
        for (int hour = 0; hour < town.hours; hour++) {
            having = town.passedOn(having, hour);
            if ((having >> to & 1) != 0) {
                return hour;
            }
        }
        return -2;
    }

    public int have(int from, int hour) {
        Town town = now.town;
        if (!town.isPerson(from) || !town.isHour(hour)) {
            return NONE;
        }
        int having = 1 << from;
        for (int h = 0; h <= hour; h++) {
            having = town.passedOn(having, h);
        }
        return having;
    }

    public int islands() {
        if (!hasTown()) {
            return NONE;
        }
        int found = 0;
        int seen = 0;
        for (int person = 0; person < now.town.people; person++) {
            if ((seen >> person & 1) == 0) {
                seen |= now.town.islandOf(person);
                found++;
            }
        }
        return found;
    }

    public int rounds(int people, int gates) {
        if (people < 0 || people >= 1 << now.town.people || gates < 1 || gates > MOST_GATES) {
            return NONE;
        }
        int size = Integer.bitCount(people);
        if (size < 2) {
            return 0;
        }
        // Rounds of a whole tournament can always be evened out to sizes that differ by one at most
        // (McDiarmid, de Werra), so the number of meetings alone is the bound.
        int atOnce = Math.max(1, Math.min(gates, size / 2));
        return (size * (size - 1) / 2 + atOnce - 1) / atOnce;
    }

    public int census() {
        if (!hasTown()) {
            return NONE;
        }
        int total = counting().totalOf(now.town);
        int nearest = 0;
        for (int n = 1; n <= MOST_CENSUS; n++) {
            if (Math.abs(n * (n - 1) - total) <= Math.abs(nearest * (nearest - 1) - total)) {
                nearest = n;
            }
        }
        return nearest;
    }

    public int seed(int x) {
        if (x < 0) {
            return NONE;
        }
        int was = now.x;
        now.x = x;
        return was;
    }

    public int drawn(int m, int p, int what) {
        if (!hasTown() || m < 1 || m > 20 || p < 0 || p > 100 || what < 0 || what > 2) {
            return NO_SUM;
        }
        int without = counting().totalOf(now.town);
        int x = now.x;
        int totals = 0;
        int odds = 0;
        int same = 0;
        for (int day = 0; day < m; day++) {
            trial.copyFrom(now.town);
            x = trial.scatter(x, p);
            int total = counting().totalOf(trial);
            totals += total;
            odds += total & 1;
            same += total == without ? 1 : 0;
        }
        switch (what) {
            case 0:
                return totals;
            case 1:
                return odds;
            default:
                return same;
        }
    }

    public int count(int what) {
        switch (what) {
            case 0:
                return now.town.gates;
            case 1:
                return now.town.hours;
            case 2:
                return now.town.people;
            case 3:
                return ruleCount;
            case 4:
                return now.force;
            case 5:
                return now.town.day;
            case 6:
                return now.town.counters;
            case 7:
                return now.town.meetingTwos();
            case 8:
                return now.toldCount;
            case 9:
                return now.palmsTold();
            case 10:
                return now.acts;
            case 11:
                return now.x;
            case 12:
                return tape.length;
            default:
                return NONE;
        }
    }

    public int image(int k) {
        if (k < 0 || k >= MOST_IMAGES) {
            return NONE;
        }
        if (images[k] == null) {
            images[k] = new Memory();
        }
        images[k].copyFrom(now);
        return now.town.day;
    }

    public int back(int k) {
        if (k < 0 || k >= MOST_IMAGES || images[k] == null) {
            return NONE;
        }
        now.copyFrom(images[k]);
        return now.town.day;
    }

    private boolean hasTown() {
        return now.town.gates > 0;
    }

    private boolean isSpot(int gate, int hour) {
        return now.town.isGate(gate) && now.town.isHour(hour);
    }

    /** The one that counts, by the RULE that is IN FORCE now. */
    private Shaker counting() {
        boolean ruled = now.force >= 0 && now.force < rules.length;
        shaker.rule = ruled ? rules[now.force] : null;
        return shaker;
    }

    private static int listMembers(int set, int[] row) {
        int size = 0;
        for (int person = 0; person < MOST_PEOPLE; person++) {
            if ((set >> person & 1) != 0 && size < row.length) {
                row[size] = person;
                size++;
            }
        }
        return size;
    }

    /** The TAPE, and how far a reader has come along it. */
    private static final class Tape {
        static final int END = -1;
        static final int CANNOT_STAND = 0;
        static final int BAD_NUMBER = 1;
        static final int TOO_DEEP = 2;
        static final int TOO_LONG = 3;
        static final int BAD_CLAUSE = 4;
        static final int ANY_NUMBER = 99999;
        private static final int MOST_DIGITS = 5;

        final byte[] bytes = new byte[MOST_BYTES];
        int length = 0;
        int place = 0;
        int fault = 0;
        /** First byte of the word, number or sign that was taken last. */
        int start = 0;

        void put(int number) {
            for (int shift = 24; shift >= 0; shift -= 8) {
                if (length < bytes.length) {
                    bytes[length] = (byte) (number >> shift);
                    length++;
                }
            }
        }

        void startReading() {
            place = 0;
            start = 0;
            fault = 0;
        }

        boolean blame(int where, int kind) {
            if (fault == 0) {
                fault = 1 + 8 * where + kind;
            }
            return false;
        }

        int byteAt(int where) {
            return where >= 0 && where < length && where < bytes.length ? bytes[where] & 255 : END;
        }

        boolean isDigitAt(int where) {
            boolean isThere = where >= 0 && where < length && where < bytes.length;
            return isThere && bytes[where] >= '0' && bytes[where] <= '9';
        }

        void skipBlanks() {
            while (place < length && place < bytes.length && bytes[place] == ' ') {
                place++;
            }
        }

        boolean isAtEnd() {
            skipBlanks();
            return place >= length;
        }

        /** Which one of some words, single blanks between, the whole word here is, which is taken then. */
        int takeWord(String words) {
            skipBlanks();
            int to = place;
            while (to < length && to < bytes.length && bytes[to] >= 'a' && bytes[to] <= 'z') {
                to++;
            }
            int which = 0;
            int alike = 0;
            for (int i = 0; i <= words.length(); i++) {
                boolean over = i == words.length() || words.charAt(i) == ' ';
                if (over && alike > 0 && place + alike == to) {
                    start = place;
                    place = to;
                    return which;
                }
                if (over) {
                    which++;
                    alike = 0;
                } else if (alike >= 0) {
                    boolean goesOn = place + alike < to && bytes[place + alike] == words.charAt(i);
                    alike = goesOn ? alike + 1 : NONE;
                }
            }
            return NONE;
        }

        /** A NUMBER between these, or NONE with its FAULT. */
        int takeNumber(int least, int most) {
            skipBlanks();
            start = place;
            int value = 0;
            while (place < length && isDigitAt(place)) {
                if (place - start < MOST_DIGITS) {
                    value = value * 10 + byteAt(place) - '0';
                }
                place++;
            }
            if (place == start) {
                blame(start, CANNOT_STAND);
                return NONE;
            }
            if (place - start > MOST_DIGITS || value < least || value > most) {
                blame(start, BAD_NUMBER);
                return NONE;
            }
            return value;
        }

        /** Which one of some signs stands here, which is taken then. */
        int takeSignOf(String signs) {
            skipBlanks();
            for (int i = 0; i < signs.length(); i++) {
                if (byteAt(place) == signs.charAt(i)) {
                    start = place;
                    place++;
                    return i;
                }
            }
            return NONE;
        }

        boolean needSign(String sign) {
            return takeSignOf(sign) != NONE || blame(place, CANNOT_STAND);
        }
    }

    /** Reads a TOWN from the TAPE into a town of its own, so that all stays if there is a FAULT. */
    private static final class TownReader {
        private static final int MOST_CLAUSES = 40;
        private static final String CLAUSES = "town person left gloved child kin counter";
        private static final int TOWN = 0;
        private static final int PERSON = 1;
        private static final int LEFT = 2;
        private static final int GLOVED = 3;
        private static final int CHILD = 4;
        private static final int KIN = 5;

        private final Tape tape;
        final Town town = new Town();

        TownReader(Tape tape) {
            this.tape = tape;
        }

        boolean readTown() {
            town.clear();
            tape.startReading();
            for (int clause = 0; clause <= MOST_CLAUSES; clause++) {
                if (!readClause(clause)) {
                    return false;
                }
                if (tape.isAtEnd()) {
                    return true;
                }
                if (!tape.needSign(";")) {
                    return false;
                }
            }
            return false;
        }

        private boolean readClause(int clause) {
            int word = tape.takeWord(CLAUSES);
            if (word == NONE) {
                return tape.blame(tape.place, Tape.CANNOT_STAND);
            }
            boolean outOfPlace = (word == TOWN) != (clause == 0);
            boolean eleventh = word == PERSON && town.people >= MOST_PEOPLE;
            if (clause >= MOST_CLAUSES || outOfPlace || eleventh) {
                return tape.blame(tape.start, Tape.BAD_CLAUSE);
            }
            switch (word) {
                case TOWN:
                    return readSize();
                case PERSON:
                    return readRow();
                case KIN:
                    return readKin();
                default:
                    return readMark(word);
            }
        }

        private boolean readSize() {
            int gates = tape.takeNumber(2, MOST_GATES);
            if (gates == NONE) {
                return false;
            }
            int hours = tape.takeNumber(1, MOST_HOURS);
            if (hours == NONE) {
                return false;
            }
            town.gates = gates;
            town.hours = hours;
            return true;
        }

        private boolean readRow() {
            int person = town.people;
            town.people++;
            tape.skipBlanks();
            for (int hour = 0; hour < town.hours; hour++) {
                if (tape.isDigitAt(tape.place)) {
                    int gate = tape.byteAt(tape.place) - '0';
                    if (!town.isGate(gate)) {
                        return tape.blame(tape.place, Tape.BAD_NUMBER);
                    }
                    town.moveTo(person, hour, gate);
                } else if (tape.byteAt(tape.place) != '-') {
                    return tape.blame(tape.place, Tape.CANNOT_STAND);
                }
                tape.place++;
            }
            return true;
        }

        private boolean readKin() {
            int one = tape.takeNumber(0, town.people - 1);
            if (one == NONE) {
                return false;
            }
            int other = tape.takeNumber(0, town.people - 1);
            if (other == NONE) {
                return false;
            }
            if (one == other) {
                return tape.blame(tape.start, Tape.BAD_NUMBER);
            }
            town.bind(one, other);
            return true;
        }

        private boolean readMark(int word) {
            boolean ofPerson = word == LEFT || word == GLOVED || word == CHILD;
            int number = tape.takeNumber(0, (ofPerson ? town.people : town.gates) - 1);
            if (number == NONE) {
                return false;
            }
            int bit = 1 << number;
            switch (word) {
                case LEFT:
                    town.left |= bit;
                    return true;
                case GLOVED:
                    town.gloved |= bit;
                    return true;
                case CHILD:
                    town.children |= bit;
                    return true;
                default:
                    town.counters |= bit;
                    return true;
            }
        }
    }

    /** A RULE as steps on a stack, each SUM ahead of its TEST: NUMBERS from 0 on, WORDS and the rest below. */
    private static final class Rule {
        static final int WORDS = 11;
        static final int CROWD = 10;
        /** A RULE has 60 VALUES at most, and nothing else makes the stack higher. */
        static final int MOST_STACK = 60;
        static final int ADD = -21;
        static final int SUBTRACT = -22;
        static final int MULTIPLY = -23;
        static final int DIVIDE = -24;
        static final int REST = -25;
        static final int LESS = -31;
        static final int AT_MOST = -32;
        static final int EQUAL = -33;
        static final int AT_LEAST = -34;
        static final int MORE = -35;
        static final int AND = -41;
        static final int OR = -42;
        static final int NOT = -43;
        static final int IF_HOLDS = -51;
        static final int ALWAYS = -52;
        private static final int MOST_WORTH = 999;

        private final int[] steps;
        /** Else the SHAKES of those who are there do not change with who else is. */
        final boolean mindsCrowd;

        Rule(int[] steps, boolean mindsCrowd) {
            this.steps = steps;
            this.mindsCrowd = mindsCrowd;
        }

        int worthBy(long[] words, long[] stack) {
            int top = 0;
            for (int i = 0; i < steps.length; i++) {
                int step = steps[i];
                if (step > ADD) {
                    int word = -1 - step;
                    if (top >= stack.length || word >= words.length) {
                        return 0;
                    }
                    stack[top] = word < 0 ? step : words[word];
                    top++;
                } else if (top < 1 || step != ALWAYS && step != NOT && top < 2) {
                    return 0;
                } else if (step == ALWAYS) {
                    return held(stack[top - 1]);
                } else if (step == NOT) {
                    stack[top - 1] = 1 - stack[top - 1];
                } else if (step == IF_HOLDS) {
                    top -= 2;
                    if (stack[top + 1] != 0) {
                        return held(stack[top]);
                    }
                } else {
                    top--;
                    stack[top - 1] = joined(step, stack[top - 1], stack[top]);
                }
            }
            return 0;
        }

        private static int held(long worth) {
            return (int) Math.max(-MOST_WORTH, Math.min(MOST_WORTH, worth));
        }

        private static long joined(int step, long a, long b) {
            switch (step) {
                case ADD:
                    return a + b;
                case SUBTRACT:
                    return a - b;
                case MULTIPLY:
                    return a * b;
                case DIVIDE:
                    return b == 0 ? 0 : a / b;
                case REST:
                    return b == 0 ? 0 : a % b;
                case LESS:
                    return a < b ? 1 : 0;
                case AT_MOST:
                    return a <= b ? 1 : 0;
                case EQUAL:
                    return a == b ? 1 : 0;
                case AT_LEAST:
                    return a >= b ? 1 : 0;
                case MORE:
                    return a > b ? 1 : 0;
                case AND:
                    return a & b;
                case OR:
                    return a | b;
                default:
                    return 0;
            }
        }
    }

    /** Reads a RULE from the TAPE, the least binding of the pending signs last. */
    private static final class RuleReader {
        private static final int MOST_CLAUSES = 12;
        private static final int MOST_COUNTED = 60;
        private static final int MOST_DEPTH = 10;
        private static final String VALUES = "one other gate hour day met kin left gloves children crowd";
        private static final String SIGNS = "+-*/%";

        private final Tape tape;
        private final int[] steps = new int[MOST_BYTES];
        private int size = 0;
        /** VALUES and FACTS made of a SIGN so far. */
        private int counted = 0;
        private boolean mindsCrowd = false;

        RuleReader(Tape tape) {
            this.tape = tape;
        }

        Rule made() {
            return new Rule(Arrays.copyOf(steps, size), mindsCrowd);
        }

        /** A CLAUSE is read here, not in a method of its own, since from a TEST on calls go deep enough. */
        boolean readRule() {
            size = 0;
            counted = 0;
            mindsCrowd = false;
            tape.startReading();
            for (int clause = 0; clause <= MOST_CLAUSES; clause++) {
                if (!readHead(clause) || !readSum()) {
                    return false;
                }
                boolean hasTest = tape.takeWord("if") != NONE;
                if (hasTest && !readTest(0)) {
                    return false;
                }
                write(hasTest ? Rule.IF_HOLDS : Rule.ALWAYS);
                if (tape.isAtEnd()) {
                    return true;
                }
                if (!tape.needSign(";")) {
                    return false;
                }
            }
            return false;
        }

        private boolean readHead(int clause) {
            if (tape.takeWord("shake") == NONE) {
                return tape.blame(tape.place, Tape.CANNOT_STAND);
            }
            return clause < MOST_CLAUSES || tape.blame(tape.start, Tape.BAD_CLAUSE);
        }

        private boolean readTest(int depth) {
            if (!readFact(depth)) {
                return false;
            }
            boolean pending = false;
            for (int i = 0; i < MOST_BYTES; i++) {
                int word = tape.takeWord("and or");
                if (word == NONE) {
                    break;
                }
                boolean isOr = word == 1;
                if (isOr && pending) {
                    write(Rule.OR);
                }
                pending |= isOr;
                if (!readFact(depth)) {
                    return false;
                }
                if (!isOr) {
                    write(Rule.AND);
                }
            }
            return !pending || write(Rule.OR);
        }

        private boolean readFact(int depth) {
            boolean opens = tape.takeSignOf("[") != NONE;
            boolean denies = !opens && tape.takeWord("not") != NONE;
            if (!opens && !denies) {
                if (!readSum()) {
                    return false;
                }
                int sign = readSign();
                return sign != 0 && readSum() && write(sign);
            }
            if (depth >= MOST_DEPTH) {
                return tape.blame(tape.start, Tape.TOO_DEEP);
            }
            if (denies) {
                return readFact(depth + 1) && write(Rule.NOT);
            }
            return readTest(depth + 1) && tape.needSign("]");
        }

        /** The step of the SIGN here, or 0 with its FAULT. */
        private int readSign() {
            int sign = tape.takeSignOf("<=>");
            if (sign == NONE) {
                tape.blame(tape.place, Tape.CANNOT_STAND);
                return 0;
            }
            if (counted >= MOST_COUNTED) {
                tape.blame(tape.start, Tape.TOO_LONG);
                return 0;
            }
            counted++;
            if (sign == 1) {
                return Rule.EQUAL;
            }
            boolean orEqual = tape.byteAt(tape.place) == '=';
            if (orEqual) {
                tape.place++;
            }
            if (sign == 0) {
                return orEqual ? Rule.AT_MOST : Rule.LESS;
            }
            return orEqual ? Rule.AT_LEAST : Rule.MORE;
        }

        private boolean readSum() {
            if (!readValue()) {
                return false;
            }
            int pending = 0;
            for (int i = 0; i < MOST_BYTES; i++) {
                int sign = tape.takeSignOf(SIGNS);
                if (sign == NONE) {
                    break;
                }
                int step = Rule.ADD - sign;
                boolean binds = step <= Rule.MULTIPLY;
                if (!binds && pending != 0) {
                    write(pending);
                }
                pending = binds ? pending : step;
                if (!readValue()) {
                    return false;
                }
                if (binds) {
                    write(step);
                }
            }
            return pending == 0 || write(pending);
        }

        private boolean readValue() {
            tape.skipBlanks();
            int step;
            if (tape.isDigitAt(tape.place)) {
                step = tape.takeNumber(0, Tape.ANY_NUMBER);
                if (step == NONE) {
                    return false;
                }
            } else {
                int word = tape.takeWord(VALUES);
                if (word == NONE) {
                    return tape.blame(tape.place, Tape.CANNOT_STAND);
                }
                mindsCrowd |= word == Rule.CROWD;
                step = -1 - word;
            }
            if (counted >= MOST_COUNTED) {
                return tape.blame(tape.start, Tape.TOO_LONG);
            }
            counted++;
            return write(step);
        }

        private boolean write(int step) {
            if (size < steps.length) {
                steps[size] = step;
                size++;
            }
            return true;
        }
    }

    /** GATES, HOURS and PEOPLE; sets are bits. Without a TOWN there are none of them. */
    private static final class Town {
        int gates = 0;
        int hours = 0;
        int people = 0;
        int day = 0;
        int left = 0;
        int gloved = 0;
        int children = 0;
        int counters = 0;
        final int[] kin = new int[MOST_PEOPLE];
        private final int[] places = new int[MOST_PEOPLE * MOST_HOURS];
        /** Who is at a GATE in an HOUR: what places say, the other way round. */
        private final int[] crowds = new int[MOST_GATES * MOST_HOURS];

        Town() {
            Arrays.fill(places, HOME);
        }

        void clear() {
            gates = 0;
            hours = 0;
            people = 0;
            day = 0;
            left = 0;
            gloved = 0;
            children = 0;
            counters = 0;
            Arrays.fill(kin, 0);
            Arrays.fill(places, HOME);
            Arrays.fill(crowds, 0);
        }

        void copyFrom(Town from) {
            gates = from.gates;
            hours = from.hours;
            people = from.people;
            day = from.day;
            left = from.left;
            gloved = from.gloved;
            children = from.children;
            counters = from.counters;
            System.arraycopy(from.kin, 0, kin, 0, kin.length);
            System.arraycopy(from.places, 0, places, 0, places.length);
            System.arraycopy(from.crowds, 0, crowds, 0, crowds.length);
        }

        boolean isGate(int gate) {
            return gate >= 0 && gate < gates && gate < MOST_GATES;
        }

        boolean isPlace(int place) {
            return place == HOME || isGate(place);
        }

        boolean isHour(int hour) {
            return hour >= 0 && hour < hours && hour < MOST_HOURS;
        }

        boolean isPerson(int person) {
            return person >= 0 && person < people && person < MOST_PEOPLE;
        }

        int placeOf(int person, int hour) {
            return isPerson(person) && isHour(hour) ? places[person * MOST_HOURS + hour] : HOME;
        }

        int those(int gate, int hour) {
            return isGate(gate) && isHour(hour) ? crowds[hour * MOST_GATES + gate] : 0;
        }

        void moveTo(int person, int hour, int place) {
            if (!isPerson(person) || !isHour(hour) || !isPlace(place)) {
                return;
            }
            int was = places[person * MOST_HOURS + hour];
            int bit = 1 << person;
            if (isGate(was)) {
                crowds[hour * MOST_GATES + was] &= ~bit;
            }
            if (isGate(place)) {
                crowds[hour * MOST_GATES + place] |= bit;
            }
            places[person * MOST_HOURS + hour] = place;
        }

        void bind(int one, int other) {
            if (isPerson(one) && isPerson(other)) {
                kin[one] |= 1 << other;
                kin[other] |= 1 << one;
            }
        }

        boolean areKin(int one, int other) {
            return isPerson(one) && (kin[one] >> other & 1) != 0;
        }

        boolean areTogether(int one, int other, int hour) {
            int place = placeOf(one, hour);
            return place != HOME && place == placeOf(other, hour);
        }

        /** In how many HOURS ahead of this one these two MEET. */
        int metAhead(int one, int other, int hour) {
            int met = 0;
            if (!isPerson(one) || !isPerson(other) || !isHour(hour)) {
                return met;
            }
            for (int h = 0; h < hour; h++) {
                int place = places[one * MOST_HOURS + h];
                if (place != HOME && place == places[other * MOST_HOURS + h]) {
                    met++;
                }
            }
            return met;
        }

        /** Whom one MEETS that DAY. */
        int company(int person) {
            int met = 0;
            for (int hour = 0; hour < hours; hour++) {
                met |= those(placeOf(person, hour), hour);
            }
            return met & ~(1 << person);
        }

        int meetingTwos() {
            int ends = 0;
            for (int person = 0; person < people; person++) {
                ends += Integer.bitCount(company(person));
            }
            return ends / 2;
        }

        /** What one gives without a RULE. */
        int giftOf(int person) {
            if ((gloved >> person & 1) != 0) {
                return 0;
            }
            int gift = (children >> person & 1) != 0 ? 1 : 2;
            return (left >> person & 1) != 0 ? -gift : gift;
        }

        /** Who has it at an HOUR's end that these have at its begin. */
        int passedOn(int having, int hour) {
            int then = having;
            for (int gate = 0; gate < gates; gate++) {
                int there = those(gate, hour);
                if ((there & having) != 0) {
                    then |= there;
                }
            }
            return then;
        }

        int islandOf(int person) {
            int island = 1 << person;
            for (int step = 0; step < people; step++) {
                for (int hour = 0; hour < hours; hour++) {
                    island = passedOn(island, hour);
                }
            }
            return island;
        }

        /** All are where the DRAWS from x on send them: x then. */
        int scatter(int x, int p) {
            int drawn = x;
            for (int person = 0; person < people; person++) {
                for (int hour = 0; hour < hours; hour++) {
                    drawn = nextDraw(drawn);
                    if ((drawn >> 16) % 100 < p) {
                        drawn = nextDraw(drawn);
                        int gate = (drawn >> 16) % (gates + 1);
                        moveTo(person, hour, gate == gates ? HOME : gate);
                    }
                }
            }
            return drawn;
        }

        private static int nextDraw(int x) {
            return x * 1103515245 + 12345 & 0x7fffffff;
        }
    }

    /** All that an IMAGE keeps. */
    private static final class Memory {
        final Town town = new Town();
        int force = NONE;
        int x = 0;
        int toldCount = 0;
        final int[] toldGate = new int[MOST_TOLD];
        final int[] toldHour = new int[MOST_TOLD];
        final int[] toldSum = new int[MOST_TOLD];
        final int[] palms = new int[MOST_PEOPLE];
        int acts = 0;
        private final int[] actKind = new int[MOST_ACTS];
        private final int[] actOf = new int[MOST_ACTS];
        private final int[] actHour = new int[MOST_ACTS];
        private final int[] actWas = new int[MOST_ACTS];

        Memory() {
            Arrays.fill(palms, NONE);
        }

        void copyFrom(Memory from) {
            town.copyFrom(from.town);
            force = from.force;
            x = from.x;
            toldCount = from.toldCount;
            System.arraycopy(from.toldGate, 0, toldGate, 0, MOST_TOLD);
            System.arraycopy(from.toldHour, 0, toldHour, 0, MOST_TOLD);
            System.arraycopy(from.toldSum, 0, toldSum, 0, MOST_TOLD);
            System.arraycopy(from.palms, 0, palms, 0, MOST_PEOPLE);
            acts = from.acts;
            System.arraycopy(from.actKind, 0, actKind, 0, MOST_ACTS);
            System.arraycopy(from.actOf, 0, actOf, 0, MOST_ACTS);
            System.arraycopy(from.actHour, 0, actHour, 0, MOST_ACTS);
            System.arraycopy(from.actWas, 0, actWas, 0, MOST_ACTS);
        }

        void settle(Town next) {
            town.copyFrom(next);
            toldCount = 0;
            Arrays.fill(palms, NONE);
            acts = 0;
        }

        int palmsTold() {
            int told = 0;
            for (int person = 0; person < MOST_PEOPLE; person++) {
                if (palms[person] != NONE) {
                    told++;
                }
            }
            return told;
        }

        void remember(int kind, int of, int hour, int was) {
            if (acts >= MOST_ACTS) {
                forgetFirst(actKind);
                forgetFirst(actOf);
                forgetFirst(actHour);
                forgetFirst(actWas);
                acts = MOST_ACTS - 1;
            }
            actKind[acts] = kind;
            actOf[acts] = of;
            actHour[acts] = hour;
            actWas[acts] = was;
            acts++;
        }

        private static void forgetFirst(int[] row) {
            System.arraycopy(row, 1, row, 0, MOST_ACTS - 1);
        }

        boolean takeBack() {
            if (acts < 1) {
                return false;
            }
            acts--;
            switch (actKind[acts]) {
                case ACT_GO:
                    town.moveTo(actOf[acts], actHour[acts], actWas[acts]);
                    return true;
                case ACT_GLOVE:
                    town.gloved ^= 1 << actOf[acts];
                    return true;
                case ACT_COUNTER:
                    town.counters ^= 1 << actOf[acts];
                    return true;
                default:
                    town.day--;
                    return true;
            }
        }
    }

    /** The greatest of what was offered, the first of several. */
    private static final class Best {
        private boolean any = false;
        int value = 0;
        int hour = 0;
        int place = 0;

        void forget() {
            any = false;
        }

        void offer(int value, int hour, int place) {
            if (!any || value > this.value) {
                any = true;
                this.value = value;
                this.hour = hour;
                this.place = place;
            }
        }
    }

    /** What SHAKES count, and their SUMS, by a RULE, or by none. */
    private static final class Shaker {
        Rule rule = null;
        private final long[] words = new long[Rule.WORDS];
        private final long[] stack = new long[Rule.MOST_STACK];
        private final int[] there = new int[MOST_PEOPLE];

        boolean mindsCrowd() {
            return rule != null && rule.mindsCrowd;
        }

        /** Of two who MEET, the lesser first, where so many are. */
        int worthOf(Town town, int one, int other, int hour, int size) {
            int met = town.metAhead(one, other, hour);
            int kin = town.areKin(one, other) ? 1 : 0;
            if (rule == null) {
                return met > 0 ? 0 : (town.giftOf(one) + town.giftOf(other)) * (1 + kin);
            }
            int two = 1 << one | 1 << other;
            words[0] = one;
            words[1] = other;
            words[2] = town.placeOf(one, hour);
            words[3] = hour;
            words[4] = town.day;
            words[5] = met;
            words[6] = kin;
            words[7] = Integer.bitCount(town.left & two);
            words[8] = Integer.bitCount(town.gloved & two);
            words[9] = Integer.bitCount(town.children & two);
            words[Rule.CROWD] = size;
            return rule.worthBy(words, stack);
        }

        int sumOf(Town town, int gate, int hour) {
            int size = listMembers(town.those(gate, hour), there);
            int sum = 0;
            for (int i = 0; i < size; i++) {
                for (int j = i + 1; j < size; j++) {
                    sum += worthOf(town, there[i], there[j], hour, size);
                }
            }
            return sum;
        }

        int streetOf(Town town, int gates, int from, int to) {
            int sum = 0;
            for (int hour = from; hour <= to; hour++) {
                for (int gate = 0; gate < town.gates; gate++) {
                    if ((gates >> gate & 1) != 0) {
                        sum += sumOf(town, gate, hour);
                    }
                }
            }
            return sum;
        }

        int totalOf(Town town) {
            return streetOf(town, (1 << town.gates) - 1, 0, town.hours - 1);
        }

        /** What two count in the whole DAY. */
        int dayOf(Town town, int one, int other) {
            int sum = 0;
            for (int hour = 0; hour < town.hours; hour++) {
                if (town.areTogether(one, other, hour)) {
                    int size = Integer.bitCount(town.those(town.placeOf(one, hour), hour));
                    sum += worthOf(town, one, other, hour, size);
                }
            }
            return sum;
        }

        /** The best HOUR elsewhere; each is tried by what it changes alone, not by all of TOTAL. */
        void findCheat(Town trial, int person, Best best) {
            int total = totalOf(trial);
            best.forget();
            for (int hour = 0; hour < trial.hours; hour++) {
                int was = trial.placeOf(person, hour);
                int atHome = total - gainAt(trial, person, hour, was);
                if (was != HOME) {
                    best.offer(atHome, hour, HOME);
                }
                for (int gate = 0; gate < trial.gates; gate++) {
                    if (gate != was) {
                        best.offer(atHome + gainAt(trial, person, hour, gate), hour, gate);
                    }
                }
                trial.moveTo(person, hour, was);
            }
        }

        /** How much more TOTAL is with one there than with that one at home, where that one is left. */
        private int gainAt(Town trial, int person, int hour, int gate) {
            int others = trial.those(gate, hour) & ~(1 << person);
            trial.moveTo(person, hour, gate);
            int with = stakeAt(trial, person, hour, gate, others);
            trial.moveTo(person, hour, HOME);
            return with - stakeAt(trial, person, hour, gate, others);
        }

        /** All SHAKES that can change with one's coming there: those there, and later ones with the others. */
        private int stakeAt(Town trial, int person, int hour, int gate, int others) {
            int stake = sumOf(trial, gate, hour);
            for (int later = hour + 1; later < trial.hours; later++) {
                int crowd = trial.those(trial.placeOf(person, later), later);
                int size = Integer.bitCount(crowd);
                int known = listMembers(crowd & others, there);
                for (int i = 0; i < known; i++) {
                    int one = Math.min(person, there[i]);
                    int other = Math.max(person, there[i]);
                    stake += worthOf(trial, one, other, later, size);
                }
            }
            return stake;
        }
    }

    /** WORLDS that FIT, and what to ask next. */
    private static final class Worlds {
        private static final int SLOT_BITS = 11;
        private static final int SLOTS = 1 << SLOT_BITS;

        int fitting = 0;
        int fewest = 0;
        int most = 0;
        int inEach = 0;
        int inNone = 0;
        private final boolean[] fits = new boolean[MOST_WORLDS];
        /** What two count where so many are: by that number, then one, then the other. */
        private final int[] worths = new int[(MOST_PEOPLE + 1) * MOST_PEOPLE * MOST_PEOPLE];
        /** A SUM by those of its crowd who are there. */
        private final int[] sums = new int[MOST_WORLDS];
        private final int[] shares = new int[MOST_WORLDS];
        private final int[] members = new int[MOST_PEOPLE];
        private final int[] slotSum = new int[SLOTS];
        private final int[] slotShare = new int[SLOTS];

        void findFitting(Shaker shaker, Memory memory) {
            Town town = memory.town;
            int worlds = 1 << town.people;
            for (int world = 0; world < worlds; world++) {
                fits[world] = true;
            }
            for (int i = 0; i < memory.toldCount; i++) {
                int crowd = town.those(memory.toldGate[i], memory.toldHour[i]);
                findSums(shaker, town, crowd, memory.toldHour[i]);
                for (int world = 0; world < worlds; world++) {
                    fits[world] &= sums[world & crowd] == memory.toldSum[i];
                }
            }
            summarize(worlds);
        }

        private void summarize(int worlds) {
            fitting = 0;
            fewest = MOST_PEOPLE;
            most = 0;
            inEach = worlds - 1;
            inNone = worlds - 1;
            for (int world = 0; world < worlds; world++) {
                if (fits[world]) {
                    fitting++;
                    fewest = Math.min(fewest, Integer.bitCount(world));
                    most = Math.max(most, Integer.bitCount(world));
                    inEach &= world;
                    inNone &= ~world;
                }
            }
        }

        void findQuestion(Shaker shaker, Town town, Best best) {
            best.forget();
            for (int hour = 0; hour < town.hours; hour++) {
                for (int gate = 0; gate < town.gates; gate++) {
                    int crowd = town.those(gate, hour);
                    best.offer(-mostAlike(shaker, town, crowd, hour), hour, gate);
                }
            }
        }

        /** How many of the WORLDS that FIT have one SUM of this crowd at most. */
        private int mostAlike(Shaker shaker, Town town, int crowd, int hour) {
            int size = Integer.bitCount(crowd);
            if (size < 2) {
                return fitting;
            }
            findSums(shaker, town, crowd, hour);
            Arrays.fill(shares, 0);
            for (int world = 0; world < 1 << town.people; world++) {
                if (fits[world]) {
                    shares[world & crowd]++;
                }
            }
            Arrays.fill(slotShare, 0);
            int alike = 0;
            int set = 0;
            for (int i = 0; i < 1 << size; i++) {
                if (shares[set] > 0) {
                    alike = Math.max(alike, shareWith(sums[set], shares[set]));
                }
                set = set - crowd & crowd;
            }
            return alike;
        }

        /** So many more WORLDS have this SUM: how many have it then. */
        private int shareWith(int sum, int more) {
            int slot = sum * 0x9E3779B1 >>> 32 - SLOT_BITS;
            for (int i = 0; i < SLOTS; i++) {
                if (slotShare[slot] == 0 || slotSum[slot] == sum) {
                    slotSum[slot] = sum;
                    slotShare[slot] += more;
                    return slotShare[slot];
                }
                slot = slot + 1 & SLOTS - 1;
            }
            return more;
        }

        private void findSums(Shaker shaker, Town town, int crowd, int hour) {
            findWorths(shaker, town, crowd, hour);
            int subsets = 1 << Integer.bitCount(crowd);
            int set = 0;
            for (int i = 0; i < subsets; i++) {
                sums[set] = sumWithin(set);
                set = set - crowd & crowd;
            }
        }

        private void findWorths(Shaker shaker, Town town, int crowd, int hour) {
            int all = listMembers(crowd, members);
            for (int i = 0; i < all; i++) {
                for (int j = i + 1; j < all; j++) {
                    int worth = 0;
                    for (int size = 2; size <= all; size++) {
                        if (size == 2 || shaker.mindsCrowd()) {
                            worth = shaker.worthOf(town, members[i], members[j], hour, size);
                        }
                        worths[(size * MOST_PEOPLE + members[i]) * MOST_PEOPLE + members[j]] = worth;
                    }
                }
            }
        }

        private int sumWithin(int set) {
            int size = listMembers(set, members);
            int sum = 0;
            for (int i = 0; i < size; i++) {
                int row = (size * MOST_PEOPLE + members[i]) * MOST_PEOPLE;
                for (int j = i + 1; j < size; j++) {
                    sum += worths[row + members[j]];
                }
            }
            return sum;
        }
    }

    /** Whether TOTAL is odd by who is gloved: of no gloves, of each one's, and of each two's together. */
    private static final class Parity {
        private int bare = 0;
        private int alone = 0;
        private final int[] both = new int[MOST_PEOPLE];

        void learn(Shaker shaker, Town trial) {
            bare = 0;
            alone = 0;
            Arrays.fill(both, 0);
            for (int one = 0; one < trial.people; one++) {
                for (int other = one + 1; other < trial.people; other++) {
                    learnTwo(shaker, trial, one, other);
                }
            }
        }

        private void learnTwo(Shaker shaker, Town trial, int one, int other) {
            int none = oddWith(shaker, trial, one, other, 0);
            int first = none ^ oddWith(shaker, trial, one, other, 1 << one);
            int second = none ^ oddWith(shaker, trial, one, other, 1 << other);
            int together = oddWith(shaker, trial, one, other, 1 << one | 1 << other);
            bare ^= none;
            alone ^= first << one ^ second << other;
            both[one] |= (together ^ none ^ first ^ second) << other;
        }

        private static int oddWith(Shaker shaker, Town trial, int one, int other, int gloved) {
            trial.gloved = gloved;
            return shaker.dayOf(trial, one, other) & 1;
        }

        private boolean isOdd(int gloved) {
            int odd = bare + Integer.bitCount(alone & gloved);
            for (int person = 0; person < MOST_PEOPLE; person++) {
                if ((gloved >> person & 1) != 0) {
                    odd += Integer.bitCount(both[person] & gloved);
                }
            }
            return (odd & 1) != 0;
        }

        int fewestTurned(int people, int gloved) {
            int fewest = NONE;
            for (int turned = 0; turned < 1 << people; turned++) {
                boolean fewer = fewest == NONE || Integer.bitCount(turned) < Integer.bitCount(fewest);
                if (fewer && isOdd(gloved ^ turned)) {
                    fewest = turned;
                }
            }
            return fewest;
        }
    }

    /** Sets of twos that shook, by PALMS. */
    private static final class Shuns {
        private int twos = 0;
        private final int[] lesser = new int[MOST_SHUN_TWOS];
        private final int[] greater = new int[MOST_SHUN_TWOS];
        /** Hands that one has still to shake, below 0 if nothing was told of it. */
        private final int[] due = new int[MOST_PEOPLE];
        private final boolean[] isTold = new boolean[MOST_PEOPLE];
        /** Twos of one on which nothing is settled yet. */
        private final int[] open = new int[MOST_PEOPLE];

        void learn(Memory memory) {
            Town town = memory.town;
            twos = 0;
            for (int person = 0; person < MOST_PEOPLE; person++) {
                int company = town.isPerson(person) ? town.company(person) : 0;
                due[person] = memory.palms[person];
                isTold[person] = memory.palms[person] != NONE;
                open[person] = Integer.bitCount(company);
                for (int other = person + 1; other < town.people; other++) {
                    if ((company >> other & 1) != 0 && twos < MOST_SHUN_TWOS) {
                        lesser[twos] = person;
                        greater[twos] = other;
                        twos++;
                    }
                }
            }
        }

        int numberOf(int one, int other) {
            for (int i = 0; i < twos; i++) {
                if (lesser[i] == one && greater[i] == other) {
                    return i;
                }
            }
            return NONE;
        }

        /** How many sets there are in which the two of this number shook (NONE: sets of all kinds). */
        int waysWith(int shaken) {
            for (int person = 0; person < MOST_PEOPLE; person++) {
                if (!canStillBe(person)) {
                    return 0;
                }
            }
            return waysFrom(0, shaken);
        }

        private boolean canStillBe(int person) {
            return !isTold[person] || due[person] >= 0 && due[person] <= open[person];
        }

        private int waysFrom(int two, int shaken) {
            if (two < 0 || two >= twos) {
                return 1;
            }
            int one = lesser[two];
            int other = greater[two];
            if (!isTold[one] && !isTold[other]) {
                return (two == shaken ? 1 : 2) * waysFrom(two + 1, shaken);
            }
            open[one]--;
            open[other]--;
            int ways = 0;
            if (two != shaken && canStillBe(one) && canStillBe(other)) {
                ways += waysFrom(two + 1, shaken);
            }
            due[one]--;
            due[other]--;
            if (canStillBe(one) && canStillBe(other)) {
                ways += waysFrom(two + 1, shaken);
            }
            due[one]++;
            due[other]++;
            open[one]++;
            open[other]++;
            return ways;
        }
    }
}
