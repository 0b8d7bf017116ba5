import java.util.function.IntToLongFunction;
import java.util.function.ToLongFunction;

/** What bounds the promises 1 to 39 name, one sentence a test. */
public final class BoundsOfPromisesTest extends BoundsHelp {
    private static final String TEN = "town 6 12" + ";person 555555555555".repeat(10);
    /** All is as large as it can be. */
    private static final Past FULL = x -> {
        town(x, TEN);
        for (int r = 0; r < 6; r++) {
            rule(x, "shake " + (r + 1));
        }
        for (int i = 0; i < 10; i++) {
            x.told(5, 11, 0);
            x.palms(i, 9);
        }
        for (int i = 0; i < 30; i++) {
            x.night();
        }
        for (int k = 0; k < 4; k++) {
            x.image(k);
        }
        tape(x, "town 2 1;person 0" + " ".repeat(383));
    };

    private interface Call {
        long of(PalmCensus x, int a);
    }

    /** In each state what is no PERSON, HOUR, GATE there, too small and too large. */
    private static final int[] NO_PERSON = {LEAST, -2, -1, 4, 5, 10, 31, 32, 33, 99, MOST};
    private static final int[] NO_HOUR = {LEAST, -2, -1, 4, 5, 12, 32, 99, MOST};
    private static final int[] NO_GATE = {LEAST, -2, 3, 4, 6, 31, 32, 33, 98, 100, MOST};

    private static void refuses(int[] all, String name, Call call, long want) {
        for (int a : all) {
            idle(RICH, name + " of " + a, x -> call.of(x, a), want);
            idle(PLAIN, name + " of " + a + " in a plain town", x -> call.of(x, a), want);
        }
    }

    private static PalmCensus rich() {
        PalmCensus x = new PalmCensus();
        RICH.accept(x);
        return x;
    }

    private static PalmCensus full() {
        PalmCensus x = new PalmCensus();
        FULL.accept(x);
        return x;
    }

    private static long b(boolean is) {
        return is ? 1 : 0;
    }

    /** A call that is refused without a TOWN. */
    private static void needsTown(String call, ToLongFunction<PalmCensus> f, long want) {
        idle(NEW, call + " without a TOWN", f, want);
        idle(x -> rule(x, "shake 1"), call + " without a TOWN, with a RULE", f, want);
    }

    private static void counts(PalmCensus x, int... want) {
        for (int what = 0; what < want.length; what++) {
            due("count(" + what + ")", x.count(what), want[what]);
        }
    }

    private static void eachWhat(int last, String name, IntToLongFunction f, long want) {
        for (int what : new int[] {LEAST, -2, -1, last + 1, last + 2, 32, 64, 99, MOST}) {
            due(name + " of what " + what, f.applyAsLong(what), want);
        }
    }

    public static void main(String[] args) {
        objectAndTape();
        towns();
        rulesAndForce();
        whoAndWhere();
        shakesAndSums();
        streetsAndBusy();
        goings();
        glovesAndCounters();
        nightsAndUndo();
        tellings();
        worldsAndAsking();
        gatesForCounters();
        cheatsAndOdds();
        palmsAndShuns();
        passing();
        roundsAndCensus();
        drawing();
        counting();
        imaging();
        finish(1, 39);
    }

    private static void objectAndTape() {
        test(1, "No TOWN, no RULES, none IN FORCE", () -> {
            PalmCensus x = new PalmCensus();
            counts(x, 0, 0, 0, 0, -1, 0, 0, 0, 0, 0, 0, 0, 0);
            due("no IMAGES", x.back(0), -1);
            due("nothing to be undone", x.undo(), -2);
            PalmCensus other = rich();
            same("another object does not matter", new PalmCensus(), x);
            due("nor does a new one", other.count(5), 2);
        });
        test(2, "Twenty bytes come behind the TAPE, of each number the highest first: how many it has", () -> {
            PalmCensus x = new PalmCensus();
            due("the first", x.feed(0x746f776e, 0x20322031, 0x3b706572, 0x736f6e20, 0x303b636f), 20);
            due("behind", x.feed(0x756e7465, 0x72203120, 0x20202020, 0x20202020, 0x20202020), 40);
            due("town 2 1;person 0;counter 1", x.town(), 1);
            due("counters", x.count(6), 2);
            due("below 0", x.feed(-1, LEAST, MOST, 0, 0x80000000), 20);
            due("a byte of 255", x.town(), fault(0, 0));
        });
        test(2, "NONE, and none comes, if it would have more than 400", () -> {
            idle(FULL, "feed at 400", x -> x.feed(0, 0, 0, 0, 0), -1);
            idle(x -> tape(x, "town 2 1;person 0" + " ".repeat(364)), "feed at 381", x -> x.feed(1, 2, 3, 4, 5), -1);
            PalmCensus x = new PalmCensus();
            tape(x, "town 2 1;person 0" + " ".repeat(363));
            due("feed at 380", x.feed(0x20202020, 0x20202020, 0x20202020, 0x20202020, 0x2020203b), 400);
            due("the last byte is there", x.town(), fault(400, 0));
        });
        test(3, "The TAPE has its first n bytes alone: n", () -> {
            PalmCensus x = new PalmCensus();
            due("of an empty TAPE none", x.end(0), 0);
            tape(x, "town 2 1;person 0;left 0");
            due("all", x.end(24), 24);
            due("all but one", x.end(23), 23);
            due("bytes", x.count(12), 23);
            due("first bytes", x.end(17), 17);
            due("town 2 1;person 0", x.town(), 1);
            tape(x, "town 2 1");
            due("none", x.end(0), 0);
            due("bytes", x.count(12), 0);
            due("of 400", full().end(400), 400);
            eachCut("town 6 12;person 0-2345-54321;person-----------5;left 01 ; kin 0 1;counter 5   ;", true);
            eachCut("shake 12345+crowd%3*met if not [one<=other or kin=1] and gloves>=children ; shake 7   ", false);
        });
        test(3, "NONE, and nothing happens, if it has not so many, or n is below 0", () -> {
            for (int n : new int[] {LEAST, -2, -1, 35, 36, 400, 401, MOST}) {
                idle(RICH, "end(" + n + ")", x -> x.end(n), -1);
            }
            idle(NEW, "end(1) of an empty TAPE", x -> x.end(1), -1);
            idle(NEW, "end(-1) of an empty TAPE", x -> x.end(-1), -1);
            idle(FULL, "end(401)", x -> x.end(401), -1);
        });
    }

    /** What stood behind the first n bytes does not count any more. */
    private static void eachCut(String text, boolean isTown) {
        for (int n = 0; n < text.length(); n++) {
            PalmCensus x = new PalmCensus();
            tape(x, text);
            due("end", x.end(n), n);
            PalmCensus y = new PalmCensus();
            tape(y, text.substring(0, n));
            due(text.substring(0, n), isTown ? x.town() : x.rule(), isTown ? y.town() : y.rule());
        }
    }

    private static void towns() {
        test(4, "The TAPE, which is empty then, is the TOWN in place of the one there was", () -> {
            PalmCensus x = rich();
            due("town", x.town(), 2);
            due("the TAPE is empty", x.count(12), 0);
            due("an empty TAPE is none", x.town(), fault(0, 0));
            counts(x, 2, 1, 2);
            due("no third one", x.at(2, 0), -1);
            due("no third GATE", x.crowd(2, 0), -1);
            due("kin", x.person(0, 3), 2);
            due("left is nobody", x.person(1, 0), 0);
            due("COUNTERS", x.count(6), 0);
            String all = "town 6 2" + ";person 55".repeat(5);
            for (int p = 0; p < 5; p++) {
                all += ";left " + p + ";gloved " + p + ";child " + p + ";kin " + p + " " + (p + 1) % 5 + ";counter " + p;
            }
            PalmCensus before = townOf(all);
            due("a FAULT at the end", town(before, all + ";left 9"), fault(all.length() + 6, 1));
            due("town", town(before, "town 6 2;person --;person 0-;person 05"), 3);
            same("nothing of the other TOWN is there", before, townOf("town 6 2;person --;person 0-;person 05"));
        });
        test(4, "(DAY 0, nothing TOLD, no PALMS, nothing to be UNDONE; the RULE IN FORCE and x stay)", () -> {
            PalmCensus x = rich();
            x.town();
            counts(x, 2, 1, 2, 2, 0, 0, 0, 1, 0, 0, 0, 5, 0);
            due("undo", x.undo(), -2);
            due("worlds", x.worlds(0), 4);
            due("shuns", x.shuns(), 2);
            due("by the RULE", x.shake(0, 1, 0), 3);
            due("the IMAGES stay", x.back(2), 1);
            due("the IMAGES stay", x.back(1), 0);
            x = full();
            x.town();
            counts(x, 2, 1, 1, 6, -1, 0, 0, 0, 0, 0, 0, 0, 0);
        });
        test(4, "how many PEOPLE", () -> {
            due("none", town(new PalmCensus(), "town 2 1"), 0);
            due("ten", town(new PalmCensus(), TEN), 10);
        });
        test(4, "-2 - its FAULT, and all stays", () -> {
            idle(NEW, "an empty TAPE", PalmCensus::town, -3);
            Past bad = x -> {
                RICH.accept(x);
                tape(x, "town 6 1;person 0;left 0;person 6");
            };
            idle(bad, "a FAULT", PalmCensus::town, fault(32, 1));
            Past full = x -> {
                FULL.accept(x);
                tape(x, "town 2 1;counter 0;" + " ".repeat(381));
            };
            idle(full, "a FAULT behind 400 bytes", PalmCensus::town, fault(400, 0));
            PalmCensus x = new PalmCensus();
            tape(x, "town 2 1;person 0;x");
            due("a FAULT", x.town(), fault(18, 0));
            due("the TAPE stays", x.end(17), 17);
            due("its first bytes", x.town(), 1);
        });
    }

    private static void rulesAndForce() {
        test(5, "The TAPE, which is empty then, is a RULE: its number", () -> {
            PalmCensus x = new PalmCensus();
            due("without a TOWN", rule(x, "shake 1"), 0);
            due("the TAPE is empty", x.count(12), 0);
            due("not IN FORCE by that", x.count(4), -1);
            for (int r = 1; r < 6; r++) {
                due("rule", rule(x, "shake 1"), r);
            }
            due("RULES", x.count(3), 6);
        });
        test(5, "-2 - its FAULT", () -> {
            PalmCensus x = rich();
            tape(x, "shake 1;");
            due("a FAULT", x.rule(), fault(8, 0));
            due("the TAPE is empty", x.count(12), 0);
            due("an empty TAPE", x.rule(), -3);
            PalmCensus want = rich();
            want.end(0);
            same("but for the TAPE all stays", x, want);
        });
        test(5, "NONE, and nothing happens: there are 6", () -> {
            idle(FULL, "a FAULT", PalmCensus::rule, -1);
            Past good = x -> {
                FULL.accept(x);
                tape(x, "shake 9");
            };
            idle(good, "none", PalmCensus::rule, -1);
            Past empty = x -> {
                FULL.accept(x);
                x.end(0);
            };
            idle(empty, "an empty TAPE", PalmCensus::rule, -1);
        });
        test(6, "A RULE is IN FORCE (NONE: none): which was", () -> {
            PalmCensus x = full();
            due("none was", x.force(0), -1);
            due("the first was", x.force(5), 0);
            due("the last counts", x.shake(0, 1, 0), 6);
            due("the last was", x.force(5), 5);
            due("the last was", x.force(-1), 5);
            due("none was", x.force(-1), -1);
            due("none counts", x.shake(0, 1, 0), 4);
            due("no ACT", x.count(10), 20);
            due("without a TOWN", new PalmCensus().force(-1), -1);
        });
        test(6, "-2, and nothing happens, if there is none such", () -> {
            for (int r : new int[] {LEAST, -3, -2, 2, 3, 5, 6, 7, MOST}) {
                idle(RICH, "force(" + r + ")", x -> x.force(r), -2);
            }
            idle(NEW, "force(0) without RULES", x -> x.force(0), -2);
            idle(FULL, "force(6)", x -> x.force(6), -2);
        });
    }

    private static void whoAndWhere() {
        test(7, "Where a PERSON is in an HOUR (99: at home)", () -> {
            due("home", rich().at(0, 2), 99);
            due("the last GATE, PERSON, HOUR", full().at(9, 11), 5);
            due("the first ones", rich().at(0, 0), 0);
        });
        test(7, "NONE without these", () -> {
            needsTown("at(0, 0)", x -> x.at(0, 0), -1);
            refuses(NO_PERSON, "at of a PERSON", (x, p) -> x.at(p, 0), -1);
            refuses(NO_HOUR, "at in an HOUR", (x, h) -> x.at(0, h), -1);
            due("an 11th", full().at(10, 11), -1);
            due("a 13th", full().at(9, 12), -1);
        });
        test(8, "what 0 to 2: 1 if left, gloved, a child, else 0, 3: kin, as bits, 4: whom they MEET that DAY, as bits", () -> {
            PalmCensus x = townOf("town 2 1" + ";person 0".repeat(10) + ";left 9;gloved 9;child 9;kin 0 9;kin 9 8");
            int[] last = {1, 1, 1, 257, 511};
            int[] first = {0, 0, 0, 512, 1022};
            int[] other = {0, 0, 0, 0, 1021};
            for (int what = 0; what < 5; what++) {
                due("the last, " + what, x.person(9, what), last[what]);
                due("the first, " + what, x.person(0, what), first[what]);
                due("another, " + what, x.person(1, what), other[what]);
            }
            due("who is alone MEETS nobody", townOf("town 2 1;person 0;person 1").person(0, 4), 0);
            due("who is at home MEETS nobody", townOf("town 2 1;person -;person -").person(0, 4), 0);
        });
        test(8, "NONE without these", () -> {
            for (int what = 0; what < 5; what++) {
                int w = what;
                needsTown("person(0, " + w + ")", x -> x.person(0, w), -1);
                refuses(NO_PERSON, "person, " + w, (x, p) -> x.person(p, w), -1);
            }
            eachWhat(4, "person", what -> rich().person(0, what), -1);
            due("an 11th", full().person(10, 0), -1);
        });
        test(9, "PEOPLE at a GATE in an HOUR, as bits", () -> {
            due("nobody", rich().crowd(2, 0), 0);
            due("all", full().crowd(5, 11), 1023);
            due("the last alone", rich().crowd(2, 3), 8);
        });
        test(9, "NONE without these", () -> {
            needsTown("crowd(0, 0)", x -> x.crowd(0, 0), -1);
            refuses(NO_GATE, "crowd at a GATE", (x, g) -> x.crowd(g, 0), -1);
            refuses(NO_HOUR, "crowd in an HOUR", (x, h) -> x.crowd(0, h), -1);
            due("home is no GATE", rich().crowd(99, 2), -1);
            due("NONE is no GATE", rich().crowd(-1, 2), -1);
            due("a 7th", full().crowd(6, 0), -1);
        });
    }

    private static void shakesAndSums() {
        test(10, "-1000 without these, or if they do not", () -> {
            needsTown("shake(0, 1, 0)", x -> x.shake(0, 1, 0), -1000);
            refuses(NO_PERSON, "shake of one", (x, p) -> x.shake(p, 1, 0), -1000);
            refuses(NO_PERSON, "shake of the other", (x, p) -> x.shake(1, p, 0), -1000);
            refuses(NO_HOUR, "shake in an HOUR", (x, h) -> x.shake(0, 1, h), -1000);
            refuses(new int[] {0, 1, 2, 3}, "shake with oneself", (x, p) -> x.shake(p, p, 3), -1000);
            due("at two GATES", rich().shake(0, 2, 0), -1000);
            due("one at home", rich().shake(0, 1, 2), -1000);
            due("both at home", townOf("town 2 1;person -;person -").shake(0, 1, 0), -1000);
            due("an 11th", full().shake(9, 10, 0), -1000);
            due("a 13th", full().shake(8, 9, 12), -1000);
        });
        test(10, "What two count who MEET in an HOUR", () -> {
            due("the last ones", full().shake(9, 8, 0), 4);
            due("0 is no refusal", full().shake(9, 8, 11), 0);
            PalmCensus x = ruled("town 2 1;person 0;person 0", "shake 0 - 9999");
            due("the least", x.shake(0, 1, 0), -999);
        });
        test(11, "-1000000 without these", () -> {
            needsTown("sum(0, 0)", x -> x.sum(0, 0), NO);
            refuses(NO_GATE, "sum at a GATE", (x, g) -> x.sum(g, 0), NO);
            refuses(NO_HOUR, "sum in an HOUR", (x, h) -> x.sum(0, h), NO);
            due("home is no GATE", rich().sum(99, 2), NO);
            due("NONE is no GATE", rich().sum(-1, 2), NO);
            due("a 7th", full().sum(6, 11), NO);
            due("the 6th in the 12th HOUR", full().sum(5, 11), 0);
            due("the greatest SUM", ruled(TEN, "shake 999").sum(5, 11), 45 * 999);
        });
        test(12, "-1000000 without these, or a COUNTER there", () -> {
            needsTown("heard(0, 0)", x -> x.heard(0, 0), NO);
            refuses(NO_GATE, "heard at a GATE", (x, g) -> x.heard(g, 0), NO);
            refuses(NO_HOUR, "heard in an HOUR", (x, h) -> x.heard(0, h), NO);
            due("home is no GATE", rich().heard(99, 2), NO);
            due("NONE is no GATE", rich().heard(-1, 2), NO);
            due("no COUNTER", rich().heard(2, 0), NO);
            due("a COUNTER, nobody", rich().heard(1, 1), 0);
            due("a COUNTER that came", rich().heard(1, 3), rich().sum(1, 3));
        });
        test(13, "TOTAL (0 without a TOWN)", () -> {
            needsTown("total", PalmCensus::total, 0);
            idle(x -> {
                rule(x, "shake 1");
                x.force(0);
            }, "total by a RULE", PalmCensus::total, 0);
            due("of nobody", townOf("town 2 1").total(), 0);
            due("of one", townOf("town 2 1;person 0").total(), 0);
            due("of all", full().total(), 45 * 4);
        });
    }

    private static void streetsAndBusy() {
        test(14, "-1000000 without these (to not below from)", () -> {
            needsTown("street(0, 0, 0)", x -> x.street(0, 0, 0), NO);
            needsTown("street(1, 0, 0)", x -> x.street(1, 0, 0), NO);
            refuses(new int[] {LEAST, -8, -1, 8, 9, 15, 16, 256, MOST}, "street of a set", (x, s) -> x.street(s, 0, 3), NO);
            refuses(NO_HOUR, "street from", (x, h) -> x.street(7, h, 3), NO);
            refuses(NO_HOUR, "street to", (x, h) -> x.street(7, 0, h), NO);
            due("to below from", rich().street(7, 1, 0), NO);
            due("to below from", rich().street(7, 3, 2), NO);
            due("from is to", rich().street(7, 3, 3), rich().sum(1, 3));
            due("the empty set", rich().street(0, 0, 3), 0);
            due("the full set", rich().street(7, 0, 3), rich().total());
            due("six GATES", full().street(63, 0, 11), 180);
            due("a 7th", full().street(64, 0, 11), NO);
        });
        test(15, "what 0: the GATE, 1: the HOUR. NONE for others, or without a TOWN", () -> {
            eachWhat(1, "busy", what -> rich().busy(what), -1);
            needsTown("busy(0)", x -> x.busy(0), -1);
            needsTown("busy(1)", x -> x.busy(1), -1);
            due("nobody", townOf("town 6 12").busy(0), 0);
            due("nobody", townOf("town 6 12").busy(1), 0);
            PalmCensus changes = townOf("town 2 2;person -1;person -1;person -1;person 0-;person 0-");
            due("the HOUR", changes.busy(1), 1);
            changes.go(0, 1, 99);
            changes.go(1, 1, 99);
            due("the HOUR then", changes.busy(1), 0);
            PalmCensus x = townOf("town 6 12;person -----------5;person -----------5");
            due("the last GATE", x.busy(0), 5);
            due("the last HOUR", x.busy(1), 11);
        });
    }

    private static void goings() {
        test(16, "GO elsewhere (a GATE, or 99) in an HOUR: TOTAL then", () -> {
            PalmCensus x = townOf("town 6 12;person ------------;person -----------5");
            due("the last GATE", x.go(0, 11, 5), 4);
            due("at", x.at(0, 11), 5);
            due("home", x.go(0, 11, 99), 0);
            due("at", x.at(0, 11), 99);
            due("the first GATE", x.go(1, 0, 0), 0);
            due("crowd", x.crowd(0, 0), 2);
            due("the other HOURS stay", x.at(1, 1), 99);
            due("ACTS", x.count(10), 3);
            due("by the RULE", rich().go(0, 2, 0), 31 + 4 + 4);
        });
        test(16, "-1000000, and nothing happens, without these, or if it is so", () -> {
            needsTown("go(0, 0, 0)", x -> x.go(0, 0, 0), NO);
            needsTown("go(0, 0, 99)", x -> x.go(0, 0, 99), NO);
            refuses(NO_PERSON, "go of a PERSON", (x, p) -> x.go(p, 0, 2), NO);
            refuses(NO_HOUR, "go in an HOUR", (x, h) -> x.go(0, h, 2), NO);
            refuses(NO_GATE, "go to a GATE", (x, g) -> x.go(0, 0, g), NO);
            idle(RICH, "go to NONE", x -> x.go(0, 0, -1), NO);
            idle(RICH, "is so", x -> x.go(0, 0, 0), NO);
            idle(RICH, "is so, by an ACT", x -> x.go(3, 0, 1), NO);
            idle(RICH, "is at home", x -> x.go(0, 2, 99), NO);
            idle(FULL, "is so", x -> x.go(9, 11, 5), NO);
            idle(FULL, "an 11th", x -> x.go(10, 11, 0), NO);
            idle(FULL, "a 13th", x -> x.go(9, 12, 0), NO);
            idle(FULL, "a 7th", x -> x.go(9, 11, 6), NO);
        });
    }

    private static void glovesAndCounters() {
        test(17, "Gloves are put on, or off: true", () -> {
            PalmCensus x = full();
            yes("on", x.glove(9, true));
            due("gloved", x.person(9, 1), 1);
            due("the others are not", x.person(8, 1), 0);
            yes("off", x.glove(9, false));
            due("gloved", x.person(9, 1), 0);
            yes("off, as told in the TOWN", rich().glove(2, false));
        });
        test(17, "false, and nothing happens, without that PERSON, or if it is so", () -> {
            needsTown("glove(0, true)", x -> b(x.glove(0, true)), 0);
            needsTown("glove(0, false)", x -> b(x.glove(0, false)), 0);
            refuses(NO_PERSON, "gloves on", (x, p) -> b(x.glove(p, true)), 0);
            refuses(NO_PERSON, "gloves off", (x, p) -> b(x.glove(p, false)), 0);
            idle(RICH, "on, as told", x -> b(x.glove(2, true)), 0);
            idle(RICH, "on, by an ACT", x -> b(x.glove(0, true)), 0);
            idle(RICH, "off", x -> b(x.glove(1, false)), 0);
            idle(FULL, "an 11th", x -> b(x.glove(10, true)), 0);
        });
        test(18, "A COUNTER comes, or leaves: true", () -> {
            PalmCensus x = full();
            yes("comes", x.counter(5, true));
            due("COUNTERS", x.count(6), 32);
            due("heard", x.heard(5, 0), 180);
            yes("comes", x.counter(0, true));
            due("COUNTERS", x.count(6), 33);
            yes("leaves", x.counter(5, false));
            due("COUNTERS", x.count(6), 1);
        });
        test(18, "false, and nothing happens, without that GATE, or if it is so", () -> {
            needsTown("counter(0, true)", x -> b(x.counter(0, true)), 0);
            needsTown("counter(0, false)", x -> b(x.counter(0, false)), 0);
            refuses(NO_GATE, "a COUNTER comes", (x, g) -> b(x.counter(g, true)), 0);
            refuses(NO_GATE, "a COUNTER leaves", (x, g) -> b(x.counter(g, false)), 0);
            idle(RICH, "home", x -> b(x.counter(99, true)), 0);
            idle(RICH, "NONE", x -> b(x.counter(-1, true)), 0);
            idle(RICH, "is there, as told", x -> b(x.counter(0, true)), 0);
            idle(RICH, "is there, by an ACT", x -> b(x.counter(1, true)), 0);
            idle(RICH, "is not there", x -> b(x.counter(2, false)), 0);
            idle(FULL, "a 7th", x -> b(x.counter(6, true)), 0);
        });
    }

    private static void nightsAndUndo() {
        test(19, "NONE, and nothing happens, without a TOWN, or at DAY 9999", () -> {
            needsTown("night", PalmCensus::night, -1);
            idle(x -> {
                RICH.accept(x);
                x.image(3);
                x.back(1);
                for (int i = 0; i < 9999; i++) {
                    x.night();
                }
            }, "night at DAY 9999", PalmCensus::night, -1);
            due("of nobody", townOf("town 2 1").night(), 1);
        });
        test(20, "The last ACT is UNDONE: how many more can be", () -> {
            PalmCensus x = rich();
            due("undo", x.undo(), 4);
            due("DAY", x.count(5), 1);
            x.undo();
            x.undo();
            x.undo();
            due("the last that can be", x.undo(), 0);
            due("ACTS", x.count(10), 0);
            due("at", x.at(3, 0), 99);
            due("of twenty", full().undo(), 19);
            due("TOLD, PALMS, x stay", x.count(8) + x.count(9) + x.count(11), 1 + 1 + 5);
        });
        test(20, "-2, and nothing happens: none can", () -> {
            needsTown("undo", PalmCensus::undo, -2);
            idle(PLAIN, "undo ahead of all ACTS", PalmCensus::undo, -2);
            idle(x -> {
                RICH.accept(x);
                for (int i = 0; i < 5; i++) {
                    x.undo();
                }
            }, "undo behind all", PalmCensus::undo, -2);
            idle(x -> {
                FULL.accept(x);
                for (int i = 0; i < 20; i++) {
                    x.undo();
                }
            }, "undo behind twenty", PalmCensus::undo, -2);
            idle(x -> {
                PLAIN.accept(x);
                x.go(0, 0, 0);
                x.glove(2, true);
                x.counter(0, true);
                x.told(0, 0, 0);
                x.palms(0, 0);
                x.seed(1);
                x.force(-1);
            }, "undo behind what are no ACTS", PalmCensus::undo, -2);
        });
    }

    private static void tellings() {
        test(21, "gate NONE: nothing is then, 0", () -> {
            PalmCensus x = full();
            due("told", x.told(-1, LEAST, MOST), 0);
            due("TOLD", x.count(8), 0);
            due("worlds", x.worlds(0), 1024);
            due("once more", x.told(-1, 0, 0), 0);
            due("anew", x.told(0, 0, 0), 1);
            idle(NEW, "without a TOWN", o -> o.told(-1, 0, 0), 0);
        });
        test(21, "a SUM of -100000 to 100000", () -> {
            PalmCensus x = townOf(TOWN);
            due("the least", x.told(0, 0, -100000), 1);
            due("the most", x.told(0, 0, 100000), 2);
            for (int sum : new int[] {LEAST, -100002, -100001, 100001, 100002, MOST}) {
                idle(RICH, "told(0, 0, " + sum + ")", o -> o.told(0, 0, sum), -2);
            }
        });
        test(21, "how many; -2, and nothing happens, without these, or if there are 10", () -> {
            needsTown("told(0, 0, 0)", x -> x.told(0, 0, 0), -2);
            refuses(NO_GATE, "told of a GATE", (x, g) -> x.told(g, 0, 0), -2);
            refuses(new int[] {99, -99}, "told of no GATE", (x, g) -> x.told(g, 0, 0), -2);
            refuses(NO_HOUR, "told of an HOUR", (x, h) -> x.told(0, h, 0), -2);
            idle(FULL, "an 11th", x -> x.told(5, 11, 0), -2);
            PalmCensus x = townOf(TEN);
            for (int n = 1; n <= 10; n++) {
                due("told", x.told(5, 11, 0), n);
            }
            due("a 7th GATE", townOf(TEN).told(6, 11, 0), -2);
            due("a 13th HOUR", townOf(TEN).told(5, 12, 0), -2);
        });
    }

    private static void worldsAndAsking() {
        Past noneFits = x -> {
            RICH.accept(x);
            x.told(0, 0, 99999);
        };
        test(22, "what 0: how many, 1: the fewest, 2: the most PEOPLE (-2: none FITS), 3: who is in each, 4: in none, "
            + "as bits (none FITS: 0)", () -> {
            int[] want = {0, -2, -2, 0, 0};
            for (int what = 0; what < 5; what++) {
                int w = what;
                idle(noneFits, "none FITS: worlds(" + w + ")", x -> x.worlds(w), want[w]);
            }
            int[] all = {1024, 0, 10, 0, 0};
            int[] one = {1, 10, 10, 1023, 0};
            PalmCensus x = townOf(TEN);
            PalmCensus y = townOf(TEN);
            y.told(5, 0, 180);
            for (int what = 0; what < 5; what++) {
                due("all FIT", x.worlds(what), all[what]);
                due("one FITS", y.worlds(what), one[what]);
            }
            // Without 0 and 1 there are no SHAKES, and by one of them neither.
            PalmCensus z = townOf("town 2 1;person 0;person 0");
            z.told(0, 0, 0);
            due("who is in none, none", z.worlds(4), 0);
            due("the most", z.worlds(2), 1);
        });
        test(22, "NONE for others, or without a TOWN", () -> {
            eachWhat(4, "worlds", what -> rich().worlds(what), -1);
            for (int what = 0; what < 5; what++) {
                int w = what;
                needsTown("worlds(" + w + ")", x -> x.worlds(w), -1);
            }
            idle(noneFits, "worlds(5), none FITS", x -> x.worlds(5), -1);
        });
        test(23, "2: how many have one SUM at most; -2: none FITS", () -> {
            for (int what = 0; what < 3; what++) {
                int w = what;
                idle(noneFits, "ask(" + w + ")", x -> x.ask(w), -2);
            }
            due("all have one", townOf("town 2 1;person 0;person 1").ask(2), 4);
            due("one has one", townOf("town 2 1").ask(2), 1);
        });
        test(23, "what 0: the GATE, 1: the HOUR", () -> {
            PalmCensus x = townOf("town 6 12;person -----------5;person -----------5");
            due("the last GATE", x.ask(0), 5);
            due("the last HOUR", x.ask(1), 11);
            due("how many", x.ask(2), 3);
        });
        test(23, "NONE for others, or without a TOWN", () -> {
            eachWhat(2, "ask", what -> rich().ask(what), -1);
            idle(noneFits, "ask(3), none FITS", x -> x.ask(3), -1);
            for (int what = 0; what < 3; what++) {
                int w = what;
                needsTown("ask(" + w + ")", x -> x.ask(w), -1);
            }
        });
    }

    private static void gatesForCounters() {
        test(24, "what 0: how many, 1: the set; -2: by none, -3: more than 8 PEOPLE", () -> {
            int[] want = {0, -2, -2, -2, -2, -2, -2, -2, -2, -3, -3};
            for (int n = 0; n <= 10; n++) {
                PalmCensus x = townOf("town 6 1" + ";person 5".repeat(n));
                due("how many for " + n, x.gates(0), want[n]);
                due("the set for " + n, x.gates(1), want[n]);
            }
        });
        test(24, "NONE for others, or without a TOWN", () -> {
            eachWhat(1, "gates", what -> rich().gates(what), -1);
            eachWhat(1, "gates of ten", what -> full().gates(what), -1);
            needsTown("gates(0)", x -> x.gates(0), -1);
            needsTown("gates(1)", x -> x.gates(1), -1);
        });
    }

    private static void cheatsAndOdds() {
        test(25, "CHEAT what 0: TOTAL, 1: the HOUR, 2: the place (99: home)", () -> {
            PalmCensus x = townOf("town 6 12;person ------------;person -----------5");
            due("TOTAL", x.cheat(0, 0), 4);
            due("the last HOUR", x.cheat(0, 1), 11);
            due("the last GATE", x.cheat(0, 2), 5);
            due("home", townOf("town 2 1;person 0").cheat(0, 2), 99);
            due("of the last one of ten, who MEETS them an HOUR later", full().cheat(9, 0), 180);
            due("in the first HOUR", full().cheat(9, 1), 0);
            due("at home", full().cheat(9, 2), 99);
        });
        test(25, "-1000000 without these", () -> {
            for (int what = 0; what < 3; what++) {
                int w = what;
                needsTown("cheat(0, " + w + ")", x -> x.cheat(0, w), NO);
                refuses(NO_PERSON, "cheat, " + w, (x, p) -> x.cheat(p, w), NO);
            }
            eachWhat(2, "cheat", what -> rich().cheat(0, what), NO);
            due("an 11th", full().cheat(10, 0), NO);
            due("of nobody", townOf("town 2 1").cheat(0, 0), NO);
        });
        test(26, "what 0: how many, 1: the set; -2: it can't be", () -> {
            due("it is so", townOf("town 2 1;person 0;person 0;child 0").odd(0), 0);
            due("it is so", townOf("town 2 1;person 0;person 0;child 0").odd(1), 0);
            due("it can't be", townOf("town 2 1;person 0;person 0").odd(0), -2);
            due("it can't be", townOf("town 2 1;person 0;person 0").odd(1), -2);
            due("nobody", townOf("town 2 1").odd(0), -2);
            due("nobody", townOf("town 2 1").odd(1), -2);
            due("the last of ten", ruled(TEN, "shake gloves if other = 9 and one = 8 and met = 0").odd(1), 256);
            due("the last two of ten", ruled(TEN, "shake 1 if gloves = 2 and one = 8 and met = 11").odd(1), 768);
        });
        test(26, "NONE for others, or without a TOWN", () -> {
            eachWhat(1, "odd", what -> rich().odd(what), -1);
            needsTown("odd(0)", x -> x.odd(0), -1);
            needsTown("odd(1)", x -> x.odd(1), -1);
        });
    }

    private static void palmsAndShuns() {
        test(27, "PALMS of a PERSON (n NONE: not told any more): true", () -> {
            PalmCensus x = full();
            due("PALMS of all", x.count(9), 10);
            yes("not any more", x.palms(9, -1));
            due("PALMS", x.count(9), 9);
            yes("nor again", x.palms(9, -1));
            due("PALMS", x.count(9), 9);
            yes("the least", x.palms(9, 0));
            yes("the most", x.palms(9, 9));
            due("PALMS", x.count(9), 10);
            yes("once more", x.palms(9, 9));
            due("no ACT", x.count(10), 20);
        });
        test(27, "false, and nothing happens, without these", () -> {
            for (int n : new int[] {-1, 0, 9}) {
                needsTown("palms(0, " + n + ")", x -> b(x.palms(0, n)), 0);
                refuses(NO_PERSON, "palms, " + n, (x, p) -> b(x.palms(p, n)), 0);
            }
            refuses(new int[] {LEAST, -3, -2, 10, 11, 99, MOST}, "palms of so many", (x, n) -> b(x.palms(0, n)), 0);
            idle(FULL, "an 11th", x -> b(x.palms(10, 0)), 0);
        });
        String fifteen = "town 6 1" + ";person 0".repeat(6);
        String sixteen = fifteen + ";person 1;person 1";
        String seventeen = sixteen + ";person 2;person 2";
        test(28, "how many sets; -3: more than 16 twos MEET", () -> {
            due("16", townOf(sixteen).count(7), 16);
            due("16", townOf(sixteen).shuns(), 65536);
            due("17", townOf(seventeen).count(7), 17);
            due("17", townOf(seventeen).shuns(), -3);
            due("45", full().shuns(), -3);
            PalmCensus x = townOf("town 2 1;person 0;person -");
            due("the empty set alone", x.shuns(), 1);
            x.palms(0, 1);
            due("none", x.shuns(), 0);
            due("nobody", townOf("town 2 1").shuns(), 1);
        });
        test(28, "NONE without a TOWN", () -> needsTown("shuns", PalmCensus::shuns, -1));
        test(29, "SHUNS of two: 1, 0, or 2; -2: there is no set; -3: more than 16 twos MEET", () -> {
            PalmCensus x = townOf(sixteen);
            due("else", x.shook(6, 7), 2);
            x.palms(7, 1);
            due("in all", x.shook(6, 7), 1);
            x.palms(7, 0);
            due("in none", x.shook(7, 6), 0);
            x.palms(7, 2);
            due("no set", x.shook(6, 7), -2);
            due("no set, of two others", x.shook(0, 1), -2);
            due("17", townOf(seventeen).shook(6, 7), -3);
            due("17", townOf(seventeen).shook(9, 8), -3);
        });
        test(29, "NONE without these (unlike), or if they do not MEET", () -> {
            needsTown("shook(0, 1)", x -> x.shook(0, 1), -1);
            refuses(NO_PERSON, "shook of one", (x, p) -> x.shook(p, 1), -1);
            refuses(NO_PERSON, "shook of the other", (x, p) -> x.shook(1, p), -1);
            refuses(new int[] {0, 1, 2, 3}, "shook of one alone", (x, p) -> x.shook(p, p), -1);
            due("do not MEET", townOf(sixteen).shook(0, 7), -1);
            due("do not MEET, 17", townOf(seventeen).shook(0, 7), -1);
            due("themselves, 45", full().shook(9, 9), -1);
            due("an 11th, 45", full().shook(9, 10), -1);
            PalmCensus x = townOf(sixteen);
            x.palms(0, 9);
            due("do not MEET, no set", x.shook(0, 7), -1);
        });
    }

    private static void passing() {
        test(30, "the HOUR in which it comes (NONE: the other one is themselves)", () -> {
            due("themselves", rich().passes(0, 0), -1);
            due("the last one themselves", full().passes(9, 9), -1);
            due("the first HOUR", full().passes(9, 0), 0);
            due("the last HOUR", townOf("town 2 12;person -----------0;person -----------0").passes(0, 1), 11);
        });
        test(30, "-2: never that DAY; -3 without these", () -> {
            due("never", townOf("town 2 1;person 0;person 1").passes(0, 1), -2);
            due("never at home", townOf("town 2 1;person -;person -").passes(0, 1), -2);
            due("it would come back in time", townOf("town 2 2;person -0;person 00;person 0-").passes(0, 2), -2);
            needsTown("passes(0, 0)", x -> x.passes(0, 0), -3);
            refuses(NO_PERSON, "passes from", (x, p) -> x.passes(p, 0), -3);
            refuses(NO_PERSON, "passes to", (x, p) -> x.passes(0, p), -3);
            refuses(NO_PERSON, "passes from nobody to themselves", (x, p) -> x.passes(p, p), -3);
            due("an 11th", full().passes(9, 10), -3);
        });
        test(31, "who has it at the end of an HOUR, as bits", () -> {
            due("oneself alone", townOf("town 2 1;person -;person -").have(1, 0), 2);
            due("all", full().have(9, 0), 1023);
            due("the last HOUR", townOf("town 2 12;person -----------0;person -----------0").have(0, 11), 3);
            due("ahead of it", townOf("town 2 12;person -----------0;person -----------0").have(0, 10), 1);
        });
        test(31, "NONE without these", () -> {
            needsTown("have(0, 0)", x -> x.have(0, 0), -1);
            refuses(NO_PERSON, "have from", (x, p) -> x.have(p, 0), -1);
            refuses(NO_HOUR, "have in an HOUR", (x, h) -> x.have(0, h), -1);
            due("a 13th", full().have(9, 12), -1);
        });
        test(32, "NONE without a TOWN", () -> {
            needsTown("islands", PalmCensus::islands, -1);
            due("nobody", townOf("town 2 1").islands(), 0);
            due("all", full().islands(), 1);
        });
    }

    private static void roundsAndCensus() {
        test(33, "NONE without these (a set of PEOPLE, GATES 1 to 6)", () -> {
            needsTown("rounds(1, 1)", x -> x.rounds(1, 1), -1);
            refuses(new int[] {LEAST, -16, -1, 16, 17, 31, 32, 1024, MOST}, "rounds of a set", (x, s) -> x.rounds(s, 1), -1);
            refuses(new int[] {LEAST, -1, 0, 7, 8, 99, MOST}, "rounds at so many", (x, g) -> x.rounds(15, g), -1);
            due("the empty set", rich().rounds(0, 1), 0);
            due("the full set", rich().rounds(15, 1), 6);
            due("more GATES than the TOWN has", rich().rounds(15, 6), 3);
            due("of ten", full().rounds(1023, 6), 9);
            due("an 11th", full().rounds(1024, 6), -1);
        });
        test(34, "NONE without a TOWN", () -> {
            needsTown("census", PalmCensus::census, -1);
            due("of nobody", townOf("town 2 1").census(), 1);
            due("below 0", townOf("town 2 1;person 0;person 0;left 0;left 1").census(), 1);
        });
    }

    private static void drawing() {
        test(35, "x becomes a number: what it was", () -> {
            PalmCensus x = new PalmCensus();
            due("the most", x.seed(MOST), 0);
            due("the least", x.seed(0), MOST);
            due("x", x.count(11), 0);
            due("5 was", rich().seed(5), 5);
            due("no ACT", full().seed(1) * 0 + full().count(10), 20);
        });
        test(35, "NONE, and nothing happens, below 0", () -> {
            for (int n : new int[] {LEAST, LEAST + 1, -2, -1}) {
                idle(RICH, "seed(" + n + ")", x -> x.seed(n), -1);
                idle(NEW, "seed(" + n + ") without a TOWN", x -> x.seed(n), -1);
            }
        });
        test(36, "DAYS drawn what 0: TOTALS, 1: odd ones, 2: those as without", () -> {
            PalmCensus x = ruled("town 2 1;person 0;person 0", "shake 5");
            due("TOTALS", x.drawn(20, 0, 0), 100);
            due("odd ones", x.drawn(20, 0, 1), 20);
            due("those as without", x.drawn(20, 0, 2), 20);
        });
        test(36, "-1000000 without these, or a TOWN", () -> {
            for (int what = 0; what < 3; what++) {
                int w = what;
                needsTown("drawn(1, 0, " + w + ")", x -> x.drawn(1, 0, w), NO);
                refuses(new int[] {LEAST, -1, 0, 21, 22, MOST}, "drawn so often", (x, m) -> x.drawn(m, 50, w), NO);
                refuses(new int[] {LEAST, -1, 101, 102, MOST}, "drawn below p", (x, p) -> x.drawn(1, p, w), NO);
            }
            eachWhat(2, "drawn", what -> rich().drawn(1, 50, what), NO);
        });
    }

    private static void counting() {
        test(37, "What 0: GATES, 1: HOURS, 2: PEOPLE, 3: RULES, 4: the RULE IN FORCE (NONE), 5: DAY, 6: COUNTERS, as bits, "
            + "7: twos who MEET that DAY, 8: TOLD, 9: PALMS that are told, 10: ACTS that can be UNDONE, 11: x, "
            + "12: bytes of the TAPE", () -> {
            counts(new PalmCensus(), 0, 0, 0, 0, -1, 0, 0, 0, 0, 0, 0, 0, 0);
            counts(rich(), 3, 4, 4, 2, 0, 2, 3, 6, 1, 1, 5, 5, 34);
            PalmCensus x = full();
            x.seed(MOST);
            x.force(5);
            for (int gate = 0; gate < 6; gate++) {
                x.counter(gate, true);
            }
            counts(x, 6, 12, 10, 6, 5, 30, 63, 45, 10, 10, 20, MOST, 400);
        });
        test(37, "NONE for others", () -> {
            eachWhat(12, "count", what -> rich().count(what), -1);
            eachWhat(12, "count without a TOWN", what -> new PalmCensus().count(what), -1);
        });
    }

    private static void imaging() {
        int[] noImage = {LEAST, -2, -1, 4, 5, 32, 99, MOST};
        test(38, "An IMAGE is made: DAY; NONE without it", () -> {
            PalmCensus x = rich();
            due("the first", x.image(0), 2);
            due("the last", x.image(3), 2);
            due("anew", x.image(1), 2);
            x.night();
            due("back", x.back(1), 2);
            refuses(noImage, "image", (o, k) -> o.image(k), -1);
            due("of no TOWN", new PalmCensus().image(0), 0);
        });
        test(39, "All is as in an IMAGE: DAY", () -> {
            PalmCensus x = rich();
            due("back", x.back(2), 1);
            due("DAY", x.count(5), 1);
            due("ACTS", x.count(10), 4);
            due("back", x.back(1), 0);
            due("ACTS", x.count(10), 1);
            due("COUNTERS", x.count(6), 1);
            x.image(3);
            x.night();
            due("what is done does not change it", x.back(3), 0);
            PalmCensus y = new PalmCensus();
            y.image(0);
            PLAIN.accept(y);
            due("to no TOWN", y.back(0), 0);
            PalmCensus none = new PalmCensus();
            none.image(0);
            same("as there was none", y, none);
        });
        test(39, "NONE, and nothing happens, if it was never made, or without it", () -> {
            idle(RICH, "back(0), never made", x -> x.back(0), -1);
            idle(RICH, "back(3), never made", x -> x.back(3), -1);
            idle(NEW, "back(0), never made", x -> x.back(0), -1);
            refuses(noImage, "back", (x, k) -> x.back(k), -1);
        });
    }
}
