import java.util.Collections;
import java.util.HashMap;
import java.util.Map;

/** Each promise by cases worked out by hand: ordinary ones, the document's edges, and wrong inputs. */
public final class PromisesTest {
    private static final String TOWN = "town 3 4;person 00-1;person 0011;person 1101;person -012;"
        + "left 1;gloved 2;child 3;kin 0 1;counter 0";
    private static final String RULE = "shake 3 - met if kin = 1;shake crowd * 2 - left";
    private static final int NO = -1000000;

    private static int wrong = 0;
    private static String promise = "";
    private static PalmCensus x;

    private static void due(String call, long got, long want) {
        if (got != want) {
            wrong++;
            System.out.println(promise + ": " + call + " answered " + got + ", due is " + want);
        }
    }

    private static void yes(String call, boolean got) {
        due(call, got ? 1 : 0, 1);
    }

    private static void no(String call, boolean got) {
        due(call, got ? 1 : 0, 0);
    }

    /** The TAPE is just this text then. */
    private static void tape(String text) {
        yes("bytes of " + text, CallsHelp.tape(x, text));
    }

    private static int town(String text) {
        tape(text);
        return x.town();
    }

    private static int rule(String text) {
        tape(text);
        return x.rule();
    }

    private static void fresh(String text) {
        x = new PalmCensus();
        if (!text.isEmpty()) {
            town(text);
        }
    }

    private static int fault(int place, int kind) {
        return CallsHelp.fault(place, kind);
    }

    private static void badTown(String text, int place, int kind) {
        due("town " + text, town(text), fault(place, kind));
        due("TAPE behind town " + text, x.count(12), text.length());
    }

    private static void badRule(String text, int place, int kind) {
        due("rule " + text, rule(text), fault(place, kind));
        due("TAPE behind rule " + text, x.count(12), 0);
    }

    private static String times(String text, int n) {
        return text.repeat(n);
    }

    /** What the first two count in HOUR 0 by a SUM or whole clauses. */
    private static void shakes(String clauses, int want) {
        fresh("town 3 2;person 11;person 11;person 1-;left 0;child 0;child 1;gloved 1;kin 0 1");
        due("rule " + clauses, rule(clauses), 0);
        x.force(0);
        due(clauses, x.shake(0, 1, 0), want);
    }

    public static void main(String[] args) {
        newObject();
        feedAndEnd();
        towns();
        townFaults();
        rules();
        ruleFaults();
        ruleValues();
        forces();
        whoAndWhere();
        shaking();
        sums();
        streetsAndBusy();
        acts();
        undoing();
        telling();
        worlds();
        asking();
        gates();
        cheats();
        odds();
        shuns();
        passing();
        rounds();
        census();
        draws();
        counts();
        images();
        System.out.println(wrong == 0 ? "all promises are as due" : wrong + " answers are not as due");
        if (wrong != 0) {
            System.exit(1);
        }
    }

    private static void newObject() {
        promise = "1";
        fresh("");
        due("NONE", PalmCensus.NONE, -1);
        for (int what = 0; what <= 12; what++) {
            due("count " + what, x.count(what), what == 4 ? -1 : 0);
        }
        due("total", x.total(), 0);
        due("at", x.at(0, 0), -1);
        due("person", x.person(0, 0), -1);
        due("crowd", x.crowd(0, 0), -1);
        due("shake", x.shake(0, 1, 0), -1000);
        due("sum", x.sum(0, 0), NO);
        due("heard", x.heard(0, 0), NO);
        due("street", x.street(0, 0, 0), NO);
        due("busy", x.busy(0), -1);
        due("go", x.go(0, 0, 99), NO);
        no("glove", x.glove(0, true));
        no("counter", x.counter(0, true));
        due("night", x.night(), -1);
        due("undo", x.undo(), -2);
        due("told", x.told(0, 0, 0), -2);
        due("worlds", x.worlds(0), -1);
        due("ask", x.ask(0), -1);
        due("gates", x.gates(0), -1);
        due("cheat", x.cheat(0, 0), NO);
        due("odd", x.odd(0), -1);
        no("palms", x.palms(0, 0));
        due("shuns", x.shuns(), -1);
        due("shook", x.shook(0, 1), -1);
        due("passes", x.passes(0, 1), -3);
        due("have", x.have(0, 0), -1);
        due("islands", x.islands(), -1);
        due("rounds", x.rounds(1, 1), -1);
        due("census", x.census(), -1);
        due("drawn", x.drawn(1, 0, 0), NO);
    }

    private static void feedAndEnd() {
        promise = "2, 3";
        fresh("");
        for (int n = 20; n <= 400; n += 20) {
            due("feed", x.feed(1, 2, 3, 4, 5), n);
        }
        due("feed beyond", x.feed(1, 2, 3, 4, 5), -1);
        due("bytes", x.count(12), 400);
        due("end", x.end(401), -1);
        due("end", x.end(-1), -1);
        due("bytes", x.count(12), 400);
        due("end", x.end(381), 381);
        due("feed beyond", x.feed(1, 2, 3, 4, 5), -1);
        due("end", x.end(380), 380);
        due("feed", x.feed(1, 2, 3, 4, 5), 400);
        due("end", x.end(0), 0);
        due("end", x.end(1), -1);
        due("highest first", x.feed(0x746f776e, 0x20322031, 0x3b706572, 0x736f6e20, 0x30ffffff), 20);
        due("end", x.end(17), 17);
        due("town 2 1;person 0", x.town(), 1);
    }

    private static void towns() {
        promise = "4";
        fresh("");
        due("seed", x.seed(77), 0);
        due("town", town(TOWN), 4);
        due("TAPE is empty", x.count(12), 0);
        rule("shake 1");
        x.force(0);
        x.night();
        x.told(0, 0, 1);
        x.palms(0, 1);
        due("town without people", town("  town2 12 "), 0);
        int[] want = {2, 12, 0, 1, 0, 0, 0, 0, 0, 0, 0, 77, 0};
        for (int what = 0; what < want.length; what++) {
            due("count " + what, x.count(what), want[what]);
        }
        due("words and numbers without blanks",
            town("town00006 00002;person0-;person  5- ;left0;left 0;gloved1;child1;kin0 1;kin 1 0;counter5;counter5"), 2);
        due("at", x.at(0, 0), 0);
        due("at", x.at(0, 1), 99);
        due("at", x.at(1, 0), 5);
        due("counters", x.count(6), 32);
        x.night();
        x.told(0, 0, 1);
        x.palms(0, 1);
        badTown("town 2 1;person x", 16, 0);
        due("TAPE stays", x.count(12), 17);
        int[] stays = {6, 2, 2, 1, 0, 1, 32, 0, 1, 1, 1, 77, 17};
        for (int what = 0; what < stays.length; what++) {
            due("all stays, count " + what, x.count(what), stays[what]);
        }
        due("40 clauses", town("town 2 1" + times(";counter 0", 39)), 0);
        due("10 people", town("town 2 1" + times(";person 0", 10)), 10);
    }

    private static void townFaults() {
        promise = "4";
        fresh("");
        badTown("", 0, 0);
        badTown("   ", 3, 0);
        badTown("town", 4, 0);
        badTown("town  ", 6, 0);
        badTown("town 2", 6, 0);
        badTown("town 1 1", 5, 1);
        badTown("town 7 1", 5, 1);
        badTown("town 2 0", 7, 1);
        badTown("town 2 13", 7, 1);
        badTown("town 000002 1", 5, 1);
        badTown("town 2-1", 6, 0);
        badTown("Town 2 1", 0, 0);
        badTown("towns 2 1", 0, 0);
        badTown("tow 2 1", 0, 0);
        badTown("townz 2 1", 0, 0);
        badTown("town 2 1;a", 9, 0);
        badTown("\u00e9", 0, 0);
        badTown("5", 0, 0);
        badTown("person 0", 0, 4);
        badTown("  kin", 2, 4);
        badTown(";town 2 1", 0, 0);
        badTown("town 2 1;", 9, 0);
        badTown("town 2 1; ", 10, 0);
        badTown("town 2 1;;", 9, 0);
        badTown("town 2 1 1", 9, 0);
        badTown("town 2 1\0", 8, 0);
        badTown("town 2 1;town 2 1", 9, 4);
        badTown("town 2 1; town", 10, 4);
        badTown("town 2 2;person 0", 17, 0);
        badTown("town 2 2;person 0;", 17, 0);
        badTown("town 2 2;person 02", 17, 1);
        badTown("town 2 2;person 0x", 17, 0);
        badTown("town 2 2;person 0 0", 17, 0);
        badTown("town 2 1;person 00", 17, 0);
        badTown("town 2 1;person", 15, 0);
        badTown("town 2 1;persons 0", 9, 0);
        badTown("town 2 1;left 0", 14, 1);
        badTown("town 2 1;left 0;person 0", 14, 1);
        badTown("town 2 1;person 0;left 1", 23, 1);
        badTown("town 2 1;person 0;gloved 1", 25, 1);
        badTown("town 2 1;person 0;child 1", 24, 1);
        badTown("town 2 1;person 0;child -", 24, 0);
        badTown("town 2 1;person 0;kin 0 0", 24, 1);
        badTown("town 2 1;person 0;kin 0 1", 24, 1);
        badTown("town 2 1;person 0;kin 1 1", 22, 1);
        badTown("town 2 1;person 0;kin 0;", 23, 0);
        badTown("town 2 1;counter 2", 17, 1);
        badTown("town 2 1;counter", 16, 0);
        badTown("town 2 1" + times(";person 0", 11), 8 + 90 + 1, 4);
        String full = "town 2 1;person 0" + times(";left 0", 38);
        due("40 clauses", town(full), 1);
        badTown(full + "; left 9", full.length() + 2, 4);
        badTown(full + "; lift", full.length() + 2, 0);
        badTown(full + ";", full.length() + 1, 0);
    }

    private static void rules() {
        promise = "5";
        fresh("");
        for (int i = 0; i < 6; i++) {
            due("rule", rule("shake " + i), i);
            due("TAPE is empty", x.count(12), 0);
        }
        tape("shake");
        due("a seventh", x.rule(), -1);
        due("TAPE stays", x.count(12), 5);
        fresh("");
        badRule("shake", 5, 0);
        due("no rule", x.count(3), 0);
        due("end beyond the empty TAPE", x.end(1), -1);
        due("an empty TAPE is no rule", x.rule(), fault(0, 0));
        due("feed behind a FAULT", x.feed(0x7368616b, 0x65203720, 0x20202020, 0x20202020, 0x20202020), 20);
        due("rule behind a FAULT", x.rule(), 0);
        fresh("");
        due("12 clauses", rule("shake 1" + times(";shake 1", 11)), 0);
        due("60 values", rule("shake 1" + times("+1", 59)), 1);
        due("10 deep", rule("shake 1 if " + times("not", 1) + times(" not", 4) + times("[", 5) + "1=1" + times("]", 5)), 2);
        due("10 deep twice", rule("shake 1 if " + times("[", 10) + "1=1" + times("]", 10) + "or" + times(" not", 10) + " 1=1"), 3);
        due("no blanks", rule("shake1if1=1and2<3or[4>=5]"), 4);
    }

    private static void ruleFaults() {
        promise = "5";
        fresh("");
        badRule("", 0, 0);
        badRule("shakes 1", 0, 0);
        badRule("town 2 1", 0, 0);
        badRule("shake x", 6, 0);
        badRule("shake [1]", 6, 0);
        badRule("shake -1", 6, 0);
        badRule("shake 1;", 8, 0);
        badRule("shake 1 2", 8, 0);
        badRule("shake 1 or", 8, 0);
        badRule("shake 1 if", 10, 0);
        badRule("shake 1 iff 1=1", 8, 0);
        badRule("shake 1 if met = 1]", 18, 0);
        badRule("shake 1 if [met = 1", 19, 0);
        badRule("shake 1 if [met = 1;shake 1", 19, 0);
        badRule("shake 1 if met", 14, 0);
        badRule("shake 1 if met and 1=1", 15, 0);
        badRule("shake 1 if 1 == 1", 14, 0);
        badRule("shake 1 if 1 < = 1", 15, 0);
        badRule("shake 1 if 1 =< 1", 14, 0);
        badRule("shake 1 if 1 <> 1", 14, 0);
        badRule("shake 1 if 1=1 and", 18, 0);
        badRule("shake 1 if not", 14, 0);
        badRule("shake 1 if notmet=1", 11, 0);
        badRule("shake 1 if 1=not 1=1", 13, 0);
        badRule("shake 1 if 1=[1=1]", 13, 0);
        badRule("shake 5 %", 9, 0);
        badRule("shake 5 + ;", 10, 0);
        badRule("shake 123456", 6, 1);
        badRule("shake 000001", 6, 1);
        badRule("shake 1 if 1 = 123456", 15, 1);
        badRule("shake 1 if " + times("[", 11) + "1=1", 21, 2);
        badRule("shake 1 if " + times("not ", 11) + "1=1", 51, 2);
        badRule("shake 1 if " + times("not ", 10) + "[", 51, 2);
        badRule("shake 1 if " + times("[", 10) + "1=1 or  not", 29, 2);
        String sixty = "shake 1" + times("+1", 59);
        badRule(sixty + "+1", sixty.length() + 1, 3);
        badRule(sixty + " + met", sixty.length() + 3, 3);
        badRule(sixty + "+123456", sixty.length() + 1, 1);
        badRule(sixty + "+mat", sixty.length() + 1, 0);
        badRule(sixty + " if 1=1", sixty.length() + 4, 3);
        badRule(sixty + ";shake 1", sixty.length() + 7, 3);
        String without = "shake 1" + times("+1", 58) + " if 1";
        badRule(without + " <= 1", without.length() + 1, 3);
        badRule(without + " ! 1", without.length() + 1, 0);
        badRule("shake 1" + times(";shake 1", 11) + "; shake", 97, 4);
        badRule("shake 1" + times(";shake 1", 11) + "; shaken", 97, 0);
    }

    private static void ruleValues() {
        promise = "6, 10";
        shakes("shake 7", 7);
        shakes("shake 7 if 1 = 0", 0);
        shakes("shake 7 if 1=0;shake 8;shake 9", 8);
        shakes("shake 1000", 999);
        shakes("shake 0 - 1000", -999);
        shakes("shake 998 + 1", 999);
        shakes("shake 2 + 3 * 4 - 5", 9);
        shakes("shake 20 / 3 * 2 % 7", 5);
        shakes("shake 7 / 0 + 7 % 0 + 1", 1);
        shakes("shake 100 - 99999 / 1000 * 1 - 1", 0);
        // 99999 to the fifth is above 64 bits: it goes round.
        long round = 99999L * 99999L * 99999L * 99999L * 99999L;
        shakes("shake 99999*99999*99999*99999*99999%997", (int) (round % 997));
        shakes("shake 99999*99999*99999*99999*99999/99999/99999/99999", (int) (round / 99999 / 99999 / 99999));
        shakes("shake 1 if 1=0 and 1=0 or 1=1", 1);
        shakes("shake 1 if 1=1 or 1=0 and 1=0", 1);
        shakes("shake 1 if [1=1 or 1=0] and 1=0", 0);
        shakes("shake 1 if not 1=0 and 1=0", 0);
        shakes("shake 1 if not [1=0 and 1=0]", 1);
        shakes("shake 1 if not not 1=1", 1);
        shakes("shake 1 if 1 < 1 or 1 > 1", 0);
        shakes("shake 1 if 1 <= 1 and 1 >= 1", 1);
        shakes("shake 1 if 2 <= 1 or 1 >= 2", 0);
        shakes("shake 1 if 0 - 1 < 0", 1);
        shakes("shake one * 10 + other", 1);
        shakes("shake gate * 10 + hour", 10);
        shakes("shake kin * 100 + left * 10 + gloves", 111);
        shakes("shake children * 10 + crowd", 23);
        shakes("shake day", 0);
        x.night();
        due("day", x.shake(1, 0, 0), 1);
        shakes("shake met * 100 + hour * 10 + crowd", 3);
        due("met", x.shake(0, 1, 1), 112);
        due("one is the lesser", x.shake(1, 0, 1), 112);
    }

    private static void forces() {
        promise = "6";
        fresh(TOWN);
        due("force", x.force(0), -2);
        due("force", x.force(-2), -2);
        due("force", x.force(-1), -1);
        rule(RULE);
        rule("shake 1");
        due("force", x.force(1), -1);
        due("in force", x.count(4), 1);
        due("total", x.total(), 8);
        due("force", x.force(2), -2);
        due("force", x.force(0), 1);
        due("total", x.total(), 31);
        due("force", x.force(-1), 0);
        due("total", x.total(), 2);
        due("not to be undone", x.undo(), -2);
    }

    private static void whoAndWhere() {
        promise = "7, 8, 9";
        fresh(TOWN);
        due("at", x.at(0, 2), 99);
        due("at", x.at(3, 3), 2);
        due("at", x.at(4, 0), -1);
        due("at", x.at(-1, 0), -1);
        due("at", x.at(0, 4), -1);
        due("at", x.at(0, -1), -1);
        due("left", x.person(1, 0), 1);
        due("left", x.person(0, 0), 0);
        due("gloved", x.person(2, 1), 1);
        due("gloved", x.person(3, 1), 0);
        due("child", x.person(3, 2), 1);
        due("child", x.person(2, 2), 0);
        due("kin", x.person(0, 3), 2);
        due("kin", x.person(1, 3), 1);
        due("kin", x.person(2, 3), 0);
        due("meets", x.person(0, 4), 14);
        due("meets", x.person(2, 4), 3);
        due("person", x.person(0, 5), -1);
        due("person", x.person(0, -1), -1);
        due("person", x.person(4, 0), -1);
        due("crowd", x.crowd(0, 1), 11);
        due("crowd", x.crowd(2, 0), 0);
        due("crowd", x.crowd(2, 3), 8);
        due("crowd", x.crowd(3, 0), -1);
        due("crowd", x.crowd(99, 2), -1);
        due("crowd", x.crowd(0, 4), -1);
        due("crowd", x.crowd(-1, 0), -1);
    }

    private static void shaking() {
        promise = "10";
        fresh(TOWN);
        due("kin, a left hand", x.shake(0, 1, 0), 0);
        due("a child", x.shake(0, 3, 1), 3);
        due("a child", x.shake(3, 1, 1), -1);
        due("later", x.shake(1, 3, 2), 0);
        due("gloved", x.shake(2, 0, 3), 2);
        due("gloved and left", x.shake(1, 2, 3), -2);
        due("do not meet", x.shake(0, 2, 0), -1000);
        due("both at home", x.shake(0, 0, 2), -1000);
        due("with themselves", x.shake(0, 0, 0), -1000);
        due("nobody", x.shake(0, 4, 0), -1000);
        due("nobody", x.shake(-1, 0, 0), -1000);
        due("no hour", x.shake(0, 1, 4), -1000);
        fresh("town 2 1;person -;person -;person 0;person 0;kin 2 3");
        due("home is no gate", x.shake(0, 1, 0), -1000);
        due("kin", x.shake(2, 3, 0), 8);
        rule(RULE);
        fresh(TOWN);
        rule(RULE);
        x.force(0);
        due("by the rule", x.shake(1, 3, 1), 5);
        due("by the rule", x.shake(1, 0, 3), 1);
    }

    private static void sums() {
        promise = "11, 12, 13";
        fresh(TOWN);
        due("sum", x.sum(0, 1), 2);
        due("sum", x.sum(1, 3), 0);
        due("sum", x.sum(2, 3), 0);
        due("sum", x.sum(3, 0), NO);
        due("sum", x.sum(0, 4), NO);
        due("sum", x.sum(-1, 0), NO);
        due("sum", x.sum(99, 0), NO);
        due("heard", x.heard(0, 1), 2);
        due("heard", x.heard(1, 3), NO);
        due("heard", x.heard(0, -1), NO);
        due("heard", x.heard(3, 0), NO);
        due("total", x.total(), 2);
        rule(RULE);
        x.force(0);
        due("sum", x.sum(0, 1), 13);
        due("sum", x.sum(1, 3), 12);
        due("heard", x.heard(0, 1), 13);
        due("total", x.total(), 31);
        fresh("town 2 12" + times(";person" + times("0", 12), 10));
        rule("shake 5000");
        x.force(0);
        due("the greatest total", x.total(), 12 * 45 * 999);
        due("census", x.census(), 735);
    }

    private static void streetsAndBusy() {
        promise = "14, 15";
        fresh(TOWN);
        rule(RULE);
        x.force(0);
        due("street", x.street(7, 0, 3), 31);
        due("street", x.street(1, 0, 1), 16);
        due("street", x.street(2, 2, 3), 15);
        due("street", x.street(2, 2, 2), 3);
        due("street of none", x.street(0, 0, 3), 0);
        due("street", x.street(8, 0, 3), NO);
        due("street", x.street(-1, 0, 3), NO);
        due("street", x.street(1, 2, 1), NO);
        due("street", x.street(1, -1, 1), NO);
        due("street", x.street(1, 0, 4), NO);
        due("busy", x.busy(0), 0);
        due("busy", x.busy(1), 1);
        due("busy", x.busy(2), -1);
        due("busy", x.busy(-1), -1);
        fresh("town 3 2;person 11;person 11;person 22;person 22");
        rule("shake 1");
        x.force(0);
        due("of several the least gate", x.busy(0), 1);
        due("of several the least hour", x.busy(1), 0);
        rule("shake 0 - 1");
        x.force(1);
        due("the greatest is 0", x.busy(0), 0);
        fresh("town 2 3");
        due("busy, nobody", x.busy(0), 0);
        due("busy, nobody", x.busy(1), 0);
    }

    private static void acts() {
        promise = "16, 17, 18, 19";
        fresh(TOWN);
        due("go", x.go(3, 0, 1), 3);
        due("at", x.at(3, 0), 1);
        due("crowd", x.crowd(1, 0), 12);
        due("is so", x.go(3, 0, 1), NO);
        due("go home", x.go(3, 0, 99), 2);
        due("is so", x.go(3, 0, 99), NO);
        due("go", x.go(4, 0, 1), NO);
        due("go", x.go(0, 4, 1), NO);
        due("go", x.go(0, 0, 3), NO);
        due("go", x.go(0, 0, -1), NO);
        due("acts", x.count(10), 2);
        yes("glove", x.glove(0, true));
        no("is so", x.glove(0, true));
        due("gloved", x.person(0, 1), 1);
        due("total", x.total(), -6);
        yes("glove", x.glove(2, false));
        no("is so", x.glove(2, false));
        no("glove", x.glove(4, true));
        no("glove", x.glove(-1, true));
        due("acts", x.count(10), 4);
        yes("counter", x.counter(2, true));
        due("heard", x.heard(2, 0), 0);
        no("is so", x.counter(2, true));
        yes("counter", x.counter(0, false));
        no("is so", x.counter(0, false));
        no("counter", x.counter(3, true));
        no("counter", x.counter(-1, true));
        due("counters", x.count(6), 4);
        due("acts", x.count(10), 6);
        due("night", x.night(), 1);
        due("acts", x.count(10), 7);
    }

    private static void undoing() {
        promise = "19, 20";
        fresh(TOWN);
        x.go(3, 0, 1);
        x.go(3, 0, 2);
        x.glove(2, false);
        x.counter(1, true);
        x.night();
        x.told(0, 0, 5);
        due("undo night", x.undo(), 4);
        due("day", x.count(5), 0);
        due("undo counter", x.undo(), 3);
        due("counters", x.count(6), 1);
        due("undo glove", x.undo(), 2);
        due("gloved", x.person(2, 1), 1);
        due("undo go", x.undo(), 1);
        due("at", x.at(3, 0), 1);
        due("undo go", x.undo(), 0);
        due("at", x.at(3, 0), 99);
        due("none", x.undo(), -2);
        due("told stays", x.count(8), 1);
        for (int i = 1; i <= 9999; i++) {
            due("night", x.night(), i);
        }
        due("the last day", x.night(), -1);
        due("at most 20", x.count(10), 20);
        for (int i = 19; i >= 0; i--) {
            due("undo", x.undo(), i);
        }
        due("none", x.undo(), -2);
        due("day", x.count(5), 9979);
        fresh(TOWN);
        x.go(0, 0, 2);
        for (int i = 0; i < 20; i++) {
            x.glove(i % 2, i / 2 % 2 == 0);
        }
        for (int i = 0; i < 20; i++) {
            x.undo();
        }
        due("the 21st last is kept", x.undo(), -2);
        due("at", x.at(0, 0), 2);
    }

    private static void telling() {
        promise = "21";
        fresh(TOWN);
        due("told", x.told(0, 0, 100000), 1);
        due("told", x.told(2, 3, -100000), 2);
        due("told", x.told(0, 0, 100001), -2);
        due("told", x.told(0, 0, -100001), -2);
        due("told", x.told(3, 0, 0), -2);
        due("told", x.told(-2, 0, 0), -2);
        due("told", x.told(0, 4, 0), -2);
        due("told", x.told(0, -1, 0), -2);
        for (int i = 3; i <= 10; i++) {
            due("told", x.told(0, 0, 0), i);
        }
        due("an 11th", x.told(0, 0, 0), -2);
        due("told", x.count(8), 10);
        due("nothing is", x.told(-1, 77, 1000000), 0);
        due("told", x.count(8), 0);
        due("worlds", x.worlds(0), 16);
    }

    private static void eachWorlds(int... want) {
        for (int what = 0; what < want.length; what++) {
            due("worlds " + what, x.worlds(what), want[what]);
        }
    }

    private static void worlds() {
        promise = "22";
        fresh(TOWN);
        eachWorlds(16, 0, 4, 0, 0);
        x.told(0, 1, 2);
        eachWorlds(2, 3, 4, 11, 0);
        x.told(0, 1, 3);
        eachWorlds(0, -2, -2, 0, 0);
        x.told(-1, 0, 0);
        x.told(0, 1, 3);
        eachWorlds(2, 2, 3, 9, 2);
        due("worlds", x.worlds(5), -1);
        due("worlds", x.worlds(-1), -1);
        x.told(-1, 0, 0);
        rule(RULE);
        x.force(0);
        // Without the third one in HOUR 3 the crowd is 2: one of 2 counts 4, the kin 1.
        x.told(1, 3, 4);
        eachWorlds(2, 2, 3, 5, 2);
        fresh("town 2 1;person 0;person 0;person 0");
        rule("shake crowd");
        x.force(0);
        x.told(0, 0, 2);
        eachWorlds(3, 2, 2, 0, 0);
        x.told(-1, 0, 0);
        x.told(0, 0, 9);
        eachWorlds(1, 3, 3, 7, 0);
        fresh("town 2 1");
        eachWorlds(1, 0, 0, 0, 0);
        x.told(0, 0, 1);
        eachWorlds(0, -2, -2, 0, 0);
    }

    private static void asking() {
        promise = "23";
        fresh(TOWN);
        due("ask", x.ask(0), 0);
        due("ask", x.ask(1), 1);
        due("ask", x.ask(2), 10);
        due("ask", x.ask(3), -1);
        due("ask", x.ask(-1), -1);
        x.told(0, 1, 3);
        due("ask", x.ask(0), 1);
        due("ask", x.ask(1), 3);
        due("ask", x.ask(2), 1);
        x.told(0, 1, 4);
        due("ask", x.ask(0), -2);
        due("ask", x.ask(2), -2);
        due("ask", x.ask(3), -1);
        fresh("town 3 2;person 11;person 11;person 22;person 22");
        due("of several", x.ask(0), 1);
        due("of several", x.ask(1), 0);
        due("of several", x.ask(2), 12);
        askedOfMany();
        fresh("town 2 1");
        due("nobody", x.ask(0), 0);
        due("nobody", x.ask(2), 1);
    }

    /** Hundreds of SUMS of one crowd, many of them more than once, and by what is TOLD not always 0 the most. */
    private static void askedOfMany() {
        for (int i = 0; i < 100; i++) {
            askedOfMany(41 + i, 7 + i % 11, 97 + i % 29);
        }
    }

    /** In HOUR 0 the first two alone MEET, in HOUR 1 all do. */
    private static void askedOfMany(int a, int b, int c) {
        fresh("town 2 2;person 00;person 00" + times(";person -0", 8));
        rule("shake 1 if hour = 0;shake one * " + a + " % 331 + other * other * " + b + " % " + c);
        x.force(0);
        Map<Integer, Integer> all = sumsOf(0, a, b, c);
        Map<Integer, Integer> ofBoth = sumsOf(3, a, b, c);
        due("hundreds of sums", all.size() > 300 ? 1 : 0, 1);
        due("ask", x.ask(2), Collections.max(all.values()));
        x.told(0, 0, 1);
        due("ask, the first two are there", x.ask(2), Collections.max(ofBoth.values()));
        int one = ofBoth.keySet().stream().filter(sum -> ofBoth.get(sum) > 1).findFirst().orElseThrow();
        x.told(0, 1, one);
        due("worlds", x.worlds(0), ofBoth.get(one));
        due("ask", x.ask(2), ofBoth.get(one));
    }

    /** How many WORLDS with these have each SUM in HOUR 1. */
    private static Map<Integer, Integer> sumsOf(int with, int a, int b, int c) {
        Map<Integer, Integer> alike = new HashMap<>();
        for (int world = 0; world < 1024; world++) {
            int sum = 0;
            for (int one = 0; one < 10; one++) {
                for (int other = one + 1; other < 10; other++) {
                    boolean both = (world >> one & 1) + (world >> other & 1) == 2;
                    sum += both ? one * a % 331 + other * other * b % c : 0;
                }
            }
            if ((world & with) == with) {
                alike.merge(sum, 1, Integer::sum);
            }
        }
        return alike;
    }

    private static void gates() {
        promise = "24";
        fresh("town 3 2");
        due("nobody", x.gates(0), 0);
        due("nobody", x.gates(1), 0);
        due("gates", x.gates(2), -1);
        due("gates", x.gates(-1), -1);
        fresh(TOWN);
        due("one alone is not heard", x.gates(0), -2);
        due("one alone is not heard", x.gates(1), -2);
        town("town 2 1" + times(";person 0", 8));
        due("8 people", x.gates(0), -2);
        town("town 2 1" + times(";person 0", 9));
        due("9 people", x.gates(0), -3);
        due("9 people", x.gates(1), -3);
        due("9 people", x.gates(2), -1);
    }

    private static void cheats() {
        promise = "25";
        fresh(TOWN);
        due("cheat", x.cheat(3, 0), 3);
        due("cheat", x.cheat(3, 1), 0);
        due("cheat", x.cheat(3, 2), 1);
        due("of several home", x.cheat(0, 0), 2);
        due("of several home", x.cheat(0, 1), 0);
        due("of several home", x.cheat(0, 2), 99);
        due("cheat", x.cheat(4, 0), NO);
        due("cheat", x.cheat(-1, 0), NO);
        due("cheat", x.cheat(0, 3), NO);
        due("cheat", x.cheat(0, -1), NO);
        due("nothing changes", x.count(10), 0);
        due("nothing changes", x.total(), 2);
        fresh("town 2 1;person 0;person 0");
        due("also if it is less", x.cheat(0, 0), 0);
        due("also if it is less", x.cheat(0, 2), 99);
        fresh("town 2 1;person -;person -");
        due("not where one is", x.cheat(0, 2), 0);
        fresh("town 2 3;person 00-;person 000;person 1-0");
        rule("shake met + crowd");
        x.force(0);
        // HOUR 2 with both others: 0 1 meet the third time, 2 + 3, the others 3 and 3.
        due("total", x.total(), 2 + 3 + 2);
        due("cheat", x.cheat(0, 0), 2 + 3 + 5 + 3 + 3);
        due("cheat", x.cheat(0, 1), 2);
        due("cheat", x.cheat(0, 2), 0);
    }

    private static void odds() {
        promise = "26";
        fresh(TOWN);
        due("can't be", x.odd(0), -2);
        due("can't be", x.odd(1), -2);
        due("odd", x.odd(2), -1);
        due("odd", x.odd(-1), -1);
        due("go", x.go(3, 1, 99), -1);
        due("is odd", x.odd(0), 0);
        due("is odd", x.odd(1), 0);
        yes("glove", x.glove(3, true));
        due("one", x.odd(0), 1);
        due("who", x.odd(1), 8);
        due("nothing changes", x.person(3, 1), 1);
        fresh("town 2 1;person 0;person 0;person 0");
        rule("shake 1 if gloves = 2");
        x.force(0);
        due("two", x.odd(0), 2);
        due("the least", x.odd(1), 3);
        x.glove(2, true);
        due("one", x.odd(0), 1);
        due("the least", x.odd(1), 1);
        fresh("town 2 1;person 0;person 0;person 1;person 1");
        rule("shake gloves if one = 2;shake 1 if gloves = 2");
        x.force(0);
        due("fewer, though greater as bits", x.odd(0), 1);
        due("fewer, though greater as bits", x.odd(1), 4);
    }

    private static void shuns() {
        promise = "27, 28, 29";
        fresh(TOWN);
        due("shuns", x.shuns(), 32);
        yes("palms", x.palms(0, 3));
        due("shuns", x.shuns(), 4);
        due("shook", x.shook(1, 2), 2);
        yes("palms", x.palms(1, 9));
        due("shuns", x.shuns(), 0);
        due("shook", x.shook(0, 1), -2);
        yes("palms", x.palms(1, 1));
        due("palms", x.count(9), 2);
        due("shuns", x.shuns(), 1);
        due("shook", x.shook(0, 1), 1);
        due("shook", x.shook(3, 0), 1);
        due("shook", x.shook(2, 1), 0);
        due("do not meet", x.shook(2, 3), -1);
        due("themselves", x.shook(1, 1), -1);
        due("nobody", x.shook(1, 4), -1);
        due("nobody", x.shook(-1, 1), -1);
        yes("palms", x.palms(1, -1));
        yes("palms", x.palms(1, -1));
        due("palms", x.count(9), 1);
        due("shuns", x.shuns(), 4);
        no("palms", x.palms(0, 10));
        no("palms", x.palms(0, -2));
        no("palms", x.palms(4, 0));
        no("palms", x.palms(-1, 0));
        due("shuns", x.shuns(), 4);
        fresh("town 2 2;person 0-;person 00;person 00;person 00;person 00;person 00;person -0");
        due("twos", x.count(7), 20);
        due("too many", x.shuns(), -3);
        due("too many", x.shook(0, 1), -3);
        due("do not meet", x.shook(0, 6), -1);
        fresh("town 2 2;person 0-;person 00;person 00;person 00;person 00;person 0-;person -1;person -1");
        due("16 twos", x.count(7), 16);
        due("16 twos", x.shuns(), 65536);
        for (int p = 0; p < 6; p++) {
            x.palms(p, 1);
        }
        due("15 ways of 6 in twos, and one two free", x.shuns(), 30);
        due("shook", x.shook(6, 7), 2);
        fresh("town 2 1;person 0;person -");
        x.palms(1, 0);
        due("who meets nobody", x.shuns(), 1);
        x.palms(1, 1);
        due("who meets nobody", x.shuns(), 0);
        fresh("town 2 1");
        due("nobody", x.shuns(), 1);
    }

    private static void passing() {
        promise = "30, 31, 32";
        fresh(TOWN);
        due("passes", x.passes(0, 1), 0);
        due("passes", x.passes(0, 3), 1);
        due("passes", x.passes(0, 2), 3);
        due("passes", x.passes(3, 2), 3);
        due("never", x.passes(2, 3), -2);
        due("themselves", x.passes(2, 2), -1);
        due("passes", x.passes(0, 4), -3);
        due("passes", x.passes(-1, 0), -3);
        due("passes", x.passes(4, 4), -3);
        due("have", x.have(0, 0), 3);
        due("have", x.have(0, 1), 11);
        due("have", x.have(0, 3), 15);
        due("have", x.have(2, 2), 4);
        due("have", x.have(2, 3), 7);
        due("have", x.have(4, 0), -1);
        due("have", x.have(0, 4), -1);
        due("have", x.have(0, -1), -1);
        due("islands", x.islands(), 1);
        fresh("town 3 2;person 0-;person 01;person 21;person -2;person 2-;person -2;person --");
        due("islands", x.islands(), 3);
        due("passes back in time", x.passes(4, 0), -2);
        due("passes on", x.passes(4, 1), 1);
        fresh("town 2 1");
        due("islands", x.islands(), 0);
    }

    private static void rounds() {
        promise = "33";
        fresh("town 2 1" + times(";person 0", 10));
        due("rounds", x.rounds(0, 1), 0);
        due("rounds", x.rounds(512, 6), 0);
        due("rounds", x.rounds(3, 1), 1);
        due("rounds", x.rounds(7, 1), 3);
        due("rounds", x.rounds(7, 6), 3);
        due("rounds", x.rounds(15, 1), 6);
        due("rounds", x.rounds(15, 2), 3);
        due("rounds", x.rounds(31, 2), 5);
        due("rounds", x.rounds(63, 2), 8);
        due("rounds", x.rounds(63, 3), 5);
        due("rounds", x.rounds(1023, 1), 45);
        due("rounds", x.rounds(1023, 4), 12);
        due("rounds", x.rounds(1023, 6), 9);
        due("rounds", x.rounds(511, 6), 9);
        due("rounds", x.rounds(1024, 1), -1);
        due("rounds", x.rounds(-1, 1), -1);
        due("rounds", x.rounds(3, 0), -1);
        due("rounds", x.rounds(3, 7), -1);
        fresh("town 2 1;person 0");
        due("rounds", x.rounds(2, 1), -1);
        due("rounds", x.rounds(1, 1), 0);
    }

    private static void censusOf(String worth, int want) {
        fresh("town 2 1;person 0;person 0");
        rule("shake " + worth);
        x.force(0);
        due("census of " + worth, x.census(), want);
    }

    private static void census() {
        promise = "34";
        censusOf("0", 1);
        censusOf("0 - 5", 1);
        censusOf("1", 2);
        censusOf("2", 2);
        censusOf("3", 2);
        censusOf("4", 3);
        censusOf("5", 3);
        censusOf("8", 3);
        censusOf("9", 4);
        censusOf("999", 32);
        fresh("town 2 1");
        due("nobody", x.census(), 1);
    }

    private static void draws() {
        promise = "35, 36";
        fresh("town 2 1;person 0;person 0");
        due("drawn", x.drawn(1, 100, 0), 0);
        due("drawn", x.drawn(1, 100, 2), 0);
        due("drawn", x.drawn(1, 50, 0), 4);
        due("drawn", x.drawn(1, 50, 2), 1);
        due("drawn", x.drawn(20, 0, 0), 80);
        due("drawn", x.drawn(20, 0, 1), 0);
        due("drawn", x.drawn(20, 0, 2), 20);
        due("x as it was", x.count(11), 0);
        due("nothing stays", x.at(1, 0), 0);
        due("drawn", x.drawn(0, 0, 0), NO);
        due("drawn", x.drawn(21, 0, 0), NO);
        due("drawn", x.drawn(1, -1, 0), NO);
        due("drawn", x.drawn(1, 101, 0), NO);
        due("drawn", x.drawn(1, 0, 3), NO);
        due("drawn", x.drawn(1, 0, -1), NO);
        due("seed", x.seed(5), 0);
        due("seed", x.seed(-1), -1);
        due("seed", x.seed(2147483647), 5);
        due("x", x.count(11), 2147483647);
        due("seed", x.seed(0), 2147483647);
        due("x", x.count(11), 0);
        rule("shake 3");
        x.force(0);
        due("odd ones", x.drawn(7, 0, 1), 7);
        rule("shake 0 - 3");
        x.force(1);
        due("odd below 0", x.drawn(7, 0, 1), 7);
        due("together", x.drawn(7, 0, 0), -21);
    }

    private static void counts() {
        promise = "37";
        fresh(TOWN);
        rule(RULE);
        rule(RULE);
        x.force(1);
        x.night();
        x.night();
        x.counter(2, true);
        x.told(0, 0, 0);
        x.palms(0, 0);
        x.seed(9);
        tape("abc");
        int[] want = {3, 4, 4, 2, 1, 2, 5, 5, 1, 1, 3, 9, 3};
        for (int what = 0; what < want.length; what++) {
            due("count " + what, x.count(what), want[what]);
        }
        due("count", x.count(13), -1);
        due("count", x.count(-1), -1);
    }

    private static void images() {
        promise = "38, 39";
        fresh("");
        due("never made", x.back(0), -1);
        due("no such", x.image(4), -1);
        due("no such", x.image(-1), -1);
        due("no such", x.back(4), -1);
        due("no such", x.back(-1), -1);
        due("without a town", x.image(3), 0);
        town(TOWN);
        rule(RULE);
        x.force(0);
        x.night();
        x.go(3, 0, 1);
        x.told(0, 0, 3);
        x.palms(2, 1);
        x.seed(8);
        due("image", x.image(1), 1);
        x.night();
        x.undo();
        x.undo();
        x.undo();
        x.glove(0, true);
        x.counter(1, true);
        x.told(0, 1, 5);
        x.palms(0, 1);
        x.seed(3);
        rule("shake 2");
        x.force(1);
        town("town 2 1;person 0");
        tape("abc");
        due("back", x.back(1), 1);
        int[] want = {3, 4, 4, 2, 0, 1, 1, 6, 1, 1, 2, 8, 3};
        for (int what = 0; what < want.length; what++) {
            due("count " + what, x.count(what), want[what]);
        }
        due("at", x.at(3, 0), 1);
        due("gloved", x.person(0, 1), 0);
        due("undo", x.undo(), 1);
        due("at", x.at(3, 0), 99);
        due("back once more", x.back(1), 1);
        due("at", x.at(3, 0), 1);
        due("back", x.back(3), 0);
        due("no town", x.count(0), 0);
        due("no rule in force", x.count(4), -1);
        due("rules stay", x.count(3), 2);
        due("the image stays", x.back(1), 1);
        x.night();
        due("made anew", x.image(1), 2);
        due("back", x.back(1), 2);
    }
}
