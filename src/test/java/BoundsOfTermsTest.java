/** What bounds the Terms and the constants name, one sentence a test. */
public final class BoundsOfTermsTest extends BoundsHelp {
    private static void goodTown(String text, int people) {
        PalmCensus x = new PalmCensus();
        due("town " + text, town(x, text), people);
    }

    private static void badTown(String text, int place, int kind) {
        PalmCensus x = new PalmCensus();
        due("town " + text, town(x, text), fault(place, kind));
        due("GATES behind a FAULT", x.count(0), 0);
    }

    private static void goodRule(String text) {
        due("rule " + text, rule(new PalmCensus(), text), 0);
    }

    private static void badRule(String text, int place, int kind) {
        PalmCensus x = new PalmCensus();
        due("rule " + text, rule(x, text), fault(place, kind));
        due("RULES behind a FAULT", x.count(3), 0);
    }

    /** What two count in a town of two who are left, gloved, children, kin as told. */
    private static void counts(String clauses, int want) {
        PalmCensus x = ruled("town 2 1;person 1;person 1;left 0;gloved 0;gloved 1;kin 0 1", clauses);
        due(clauses, x.shake(0, 1, 0), want);
    }

    /** So many VALUES in one SUM. */
    private static String values(int n) {
        return "shake 1" + "+1".repeat(n - 1);
    }

    private static void terms(String words, Runnable body) {
        test(TERMS, words, body);
    }

    public static void main(String[] args) {
        lengthAndClauses();
        townClauses();
        peopleAndMarks();
        ruleClauses();
        tests();
        numbersAndWords();
        arithmetic();
        depthAndSize();
        faults();
        lifeOfAnObject();
        shakes();
        sumsAndTotals();
        acts();
        worlds();
        asking();
        cheatsAndOdds();
        shuns();
        passesAndIslands();
        roundsAndCensus();
        streetsAndBusy();
        draws();
        images();
        finish(TERMS, TERMS);
    }

    private static void lengthAndClauses() {
        terms("A TOWN is a text of at most 400 bytes", () -> {
            PalmCensus x = new PalmCensus();
            String text = "town 2 1" + " ".repeat(382) + ";counter 1";
            due("bytes", text.length(), 400);
            due("a town of 400 bytes", town(x, text), 0);
            due("its last byte counts", x.count(6), 2);
            no401("town 2 1" + " ".repeat(392));
        });
        terms("CLAUSE { ; CLAUSE }", () -> {
            badTown("", 0, 0);
            badTown("    ", 4, 0);
            badTown(";", 0, 0);
            badTown("town 2 1;", 9, 0);
            badTown("town 2 1;;counter 1", 9, 0);
            badTown("town 2 1 counter 1", 9, 0);
            badTown("town 2 1,counter 1", 8, 0);
            goodTown("town 2 1", 0);
        });
        terms("40 at most", () -> {
            PalmCensus x = new PalmCensus();
            String most = "town 2 1" + ";counter 0".repeat(38);
            due("40 clauses", town(x, most + ";counter 1"), 0);
            due("the 40th counts", x.count(6), 3);
            String people = "town 2 1;person 0" + ";left 0".repeat(38);
            goodTown(people, 1);
            badTown(people + ";left 0", people.length() + 1, 4);
        });
    }

    /** A text of 400 bytes is on the TAPE: nothing more comes on it. */
    private static void no401(String text) {
        PalmCensus x = new PalmCensus();
        yes("400 bytes", tape(x, text));
        due("feed", x.feed(0x3b3b3b3b, 0, 0, 0, 0), -1);
        due("bytes", x.count(12), 400);
        due("as it was", x.town(), 0);
    }

    private static void townClauses() {
        terms("GATES 2 to 6", () -> {
            badTown("town 0 1", 5, 1);
            badTown("town 1 1", 5, 1);
            badTown("town 7 1", 5, 1);
            badTown("town 99999 1", 5, 1);
            badTown("town - 1", 5, 0);
            due("2", townOf("town 2 1").count(0), 2);
            due("6", townOf("town 6 1").count(0), 6);
        });
        terms("HOURS 1 to 12", () -> {
            badTown("town 2 0", 7, 1);
            badTown("town 2 13", 7, 1);
            badTown("town 2 99999", 7, 1);
            badTown("town 2 -1", 7, 0);
            badTown("town 2", 6, 0);
            badTown("town 2;", 6, 0);
            due("1", townOf("town 2 1").count(1), 1);
            due("12", townOf("town 2 12").count(1), 12);
        });
        terms("once, the first CLAUSE", () -> {
            badTown("town 2 1;town 2 1", 9, 4);
            badTown("town 2 1;person 0; town 2 1", 19, 4);
            for (String word : new String[] {"person", "left", "gloved", "child", "kin", "counter"}) {
                badTown(word + " 0;town 2 1", 0, 4);
                badTown(" " + word, 1, 4);
            }
        });
        terms("as many signs as there are HOURS", () -> {
            badTown("town 2 2;person 0", 17, 0);
            badTown("town 2 2;person 0;", 17, 0);
            badTown("town 2 2;person 001", 18, 0);
            badTown("town 2 2;person 00-", 18, 0);
            badTown("town 2 2;person", 15, 0);
            badTown("town 2 2;person ;", 16, 0);
            badTown("town 2 12;person 00000000000", 28, 0);
            goodTown("town 2 12;person 000000000000", 1);
            badTown("town 2 12;person 0000000000000", 29, 0);
        });
        terms("no blanks between", () -> {
            badTown("town 2 2;person 0 0", 17, 0);
            badTown("town 2 2;person - -", 17, 0);
            goodTown("town 2 2;person   00  ", 1);
            goodTown("town 2 2;person--", 1);
        });
        terms("a digit, the GATE where that one is in that HOUR; - at home", () -> {
            PalmCensus x = townOf("town 6 3;person 05-");
            due("the least GATE", x.at(0, 0), 0);
            due("the greatest GATE", x.at(0, 1), 5);
            due("home", x.at(0, 2), 99);
            badTown("town 2 1;person +", 16, 0);
            badTown("town 2 1;person a", 16, 0);
        });
    }

    private static void peopleAndMarks() {
        terms("of each a PERSON that was told", () -> {
            String two = "town 2 1;person 0;person 0;";
            for (String word : new String[] {"left", "gloved", "child"}) {
                int at = two.length() + word.length() + 1;
                goodTown(two + word + " 0", 2);
                goodTown(two + word + " 1", 2);
                badTown(two + word + " 2", at, 1);
                badTown(two + word + " 2;person 0", at, 1);
                badTown(two + word + " 99999", at, 1);
                badTown(two + word + " -1", at, 0);
                badTown(two + word, at - 1, 0);
                badTown("town 2 1;" + word + " 0", 10 + word.length(), 1);
            }
        });
        terms("more than once, too", () -> {
            PalmCensus x = townOf("town 2 1;person 0;left 0;left 0;gloved 0;gloved 0;child 0;child 0");
            for (int what = 0; what < 3; what++) {
                due("person " + what, x.person(0, what), 1);
            }
        });
        terms("two PEOPLE that were told", () -> {
            String two = "town 2 1;person 0;person 0;";
            PalmCensus x = townOf(two + "person 0;kin 1 0;kin 0 1;kin 2 0;kin 1 2");
            due("kin", x.person(0, 3), 6);
            due("kin", x.person(1, 3), 5);
            due("kin", x.person(2, 3), 3);
            badTown(two + "kin 2 0", 31, 1);
            badTown(two + "kin 0 2", 33, 1);
            badTown(two + "kin 0 2;person 0", 33, 1);
            badTown(two + "kin 0", 32, 0);
            badTown(two + "kin", 30, 0);
            badTown(two + "kin 01", 33, 0);
        });
        terms("counter NUMBER (a GATE)", () -> {
            due("the greatest GATE", townOf("town 6 1;counter 5;counter 5").count(6), 32);
            due("the least GATE", townOf("town 6 1;counter 0").count(6), 1);
            badTown("town 6 1;counter 6", 17, 1);
            badTown("town 2 1;counter 2", 17, 1);
            badTown("town 2 1;counter -", 17, 0);
        });
        terms("PEOPLE 0 to 9, in the order told", () -> {
            StringBuilder text = new StringBuilder("town 6 2");
            for (int p = 0; p < 10; p++) {
                text.append(";person ").append(p % 6).append(p / 6);
            }
            PalmCensus x = townOf(text + ";left 9");
            for (int p = 0; p < 10; p++) {
                due("at", x.at(p, 0), p % 6);
                due("at", x.at(p, 1), p / 6);
            }
            due("the last is left", x.person(9, 0), 1);
            due("no 11th", x.at(10, 0), -1);
            badTown(text + ";left 10", text.length() + 6, 1);
            badTown(text + ";person 00", text.length() + 1, 4);
        });
        terms("It is DAY 0", () -> due("DAY", townOf("town 2 1").count(5), 0));
    }

    private static void ruleClauses() {
        terms("RULES 0 to 5", () -> {
            PalmCensus x = townOf("town 2 1;person 0;person 0");
            for (int r = 0; r < 6; r++) {
                due("rule", rule(x, "shake 1" + r), r);
            }
            due("a 7th", rule(x, "shake 16"), -1);
            for (int r = 0; r < 6; r++) {
                x.force(r);
                due("by rule " + r, x.shake(0, 1, 0), 10 + r);
            }
        });
        terms("texts likewise", () -> {
            String text = "shake" + " ".repeat(394) + "7";
            due("bytes", text.length(), 400);
            counts(text, 7);
            badRule("", 0, 0);
            badRule("   ", 3, 0);
            badRule(";", 0, 0);
            badRule("shake 1;", 8, 0);
            badRule("shake 1;;shake 1", 8, 0);
        });
        terms("12 CLAUSES at most", () -> {
            String eleven = "shake 1 if 1<1" + ";shake 1 if 1<1".repeat(10);
            counts(eleven, 0);
            counts(eleven + ";shake 5", 5);
            badRule(eleven + ";shake 5;shake 6", eleven.length() + 9, 4);
            badRule(eleven + ";shake 5; shake", eleven.length() + 10, 4);
        });
        terms("shake SUM [ if TEST ]", () -> {
            badRule("shake", 5, 0);
            badRule("shake if 1=1", 6, 0);
            badRule("shake 1 if", 10, 0);
            badRule("shake 1 if 1=1 if 1=1", 15, 0);
            badRule("if 1=1", 0, 0);
            goodRule("shake 1 if 1=1");
        });
    }

    private static void tests() {
        terms("TEST: PART { or PART }. PART: FACT { and FACT }", () -> {
            for (int bits = 0; bits < 16; bits++) {
                boolean a = (bits & 1) != 0;
                boolean b = (bits & 2) != 0;
                boolean c = (bits & 4) != 0;
                boolean d = (bits & 8) != 0;
                holds(a + " or " + b + " or " + c + " or " + d, a || b || c || d);
                holds(a + " and " + b + " and " + c + " and " + d, a && b && c && d);
                holds(a + " or " + b + " and " + c + " or " + d, a || b && c || d);
                holds(a + " and " + b + " or " + c + " and " + d, a && b || c && d);
                holds(a + " or " + b + " and " + c + " and " + d, a || b && c && d);
                holds(a + " and [ " + b + " or " + c + " ] and not " + d, a && (b || c) && !d);
                holds("not [ " + a + " or " + b + " ] or not " + c + " and " + d, !(a || b) || !c && d);
            }
        });
        terms("SIGN one of < <= = >= >", () -> {
            String[] signs = {"<", "<=", "=", ">=", ">"};
            boolean[] ofLess = {true, true, false, false, false};
            boolean[] ofEqual = {false, true, true, true, false};
            boolean[] ofMore = {false, false, false, true, true};
            for (int i = 0; i < 5; i++) {
                holds("1 " + signs[i] + " 2", ofLess[i]);
                holds("2 " + signs[i] + " 2", ofEqual[i]);
                holds("3 " + signs[i] + " 2", ofMore[i]);
                holds("0 - 3 " + signs[i] + " 0 - 2", ofLess[i]);
                holds("0 " + signs[i] + " 65536 * 65536", ofLess[i]);
            }
            badRule("shake 1 if 1 => 1", 14, 0);
            badRule("shake 1 if 1 <> 1", 14, 0);
            badRule("shake 1 if 1 == 1", 14, 0);
            badRule("shake 1 if 1 ! 1", 13, 0);
        });
        terms("TERM: VALUE { (* or / or %) VALUE }", () -> {
            counts("shake 2 + 3 * 4", 14);
            counts("shake 2 * 3 + 4", 10);
            counts("shake 20 - 3 - 4", 13);
            counts("shake 20 - 3 * 4 + 5 * 6 - 7", 31);
            counts("shake 100 / 10 / 5 * 7 % 4", 2);
            counts("shake 1 - 2 - 3", -4);
        });
    }

    /** Facts that are true or false, in place of those of a RULE. */
    private static void holds(String test, boolean want) {
        counts("shake 7 if " + test.replace("true", "1=1").replace("false", "1=0"), want ? 7 : 0);
    }

    private static void numbersAndWords() {
        terms("1 to 5 digits, as far as digits go on", () -> {
            counts("shake 99999 - 99000", 999);
            counts("shake 00007", 7);
            counts("shake 0", 0);
            counts("shake 00000", 0);
            badRule("shake 100000", 6, 1);
            badRule("shake 000007", 6, 1);
            badRule("shake 1+000000000000000007", 8, 1);
            badTown("town 000002 1", 5, 1);
            badTown("town 2 000001", 7, 1);
            goodTown("town 00002 00001", 0);
            badRule("shake 1 2", 8, 0);
        });
        terms("small letters, as far as these go on", () -> {
            badRule("shakeone", 0, 0);
            badRule("shake metkin", 6, 0);
            badRule("shake me", 6, 0);
            badRule("shake mett", 6, 0);
            badRule("shake amet", 6, 0);
            badRule("shake meta", 6, 0);
            badRule("shake metz", 6, 0);
            badRule("shake zmet", 6, 0);
            badTown("towna 2 1", 0, 0);
            badTown("townz 2 1", 0, 0);
            badTown("town`2 1", 4, 0);
            badTown("town{2 1", 4, 0);
            badRule("shake Met", 6, 0);
            badRule("shake mEt", 6, 0);
            badRule("shake met1", 9, 0);
            badRule("shake 1 If 1=1", 8, 0);
            goodRule("shake met*1if met=1or 1=met");
        });
        terms("one (the lesser of them)", () -> {
            PalmCensus x = ruled("town 2 1" + ";person 0".repeat(10), "shake one * 10 + other");
            due("the least two", x.shake(1, 0, 0), 1);
            due("the greatest two", x.shake(9, 8, 0), 89);
            due("the greatest two", x.shake(8, 9, 0), 89);
        });
        terms("gate, hour, day", () -> {
            PalmCensus x = ruled("town 6 12;person 0----------5;person 0----------5", "shake gate * 100 + hour");
            due("the first GATE and HOUR", x.shake(0, 1, 0), 0);
            due("the last GATE and HOUR", x.shake(0, 1, 11), 511);
            x = ruled("town 2 1;person 0;person 0", "shake day % 1000 if day < 10000");
            due("the first DAY", x.shake(0, 1, 0), 0);
            x.night();
            due("the next DAY", x.shake(0, 1, 0), 1);
            for (int day = 2; day <= 9999; day++) {
                x.night();
            }
            due("the last DAY", x.shake(0, 1, 0), 999);
        });
        terms("in how many HOURS ahead of it that DAY they met", () -> {
            PalmCensus x = ruled("town 2 12;person 000000000000;person 000000000000", "shake met");
            due("in the first HOUR", x.shake(0, 1, 0), 0);
            due("in the last HOUR", x.shake(0, 1, 11), 11);
            x.night();
            due("a DAY on", x.shake(0, 1, 0), 0);
            x = ruled("town 2 4;person 0-10;person 0-00", "shake met");
            due("not where they did not", x.shake(0, 1, 3), 1);
        });
        terms("1 if they are, else 0", () -> {
            PalmCensus x = ruled("town 2 1;person 0;person 0;person 0;kin 2 1", "shake kin + 5");
            due("are", x.shake(1, 2, 0), 6);
            due("are", x.shake(2, 1, 0), 6);
            due("are not", x.shake(0, 1, 0), 5);
        });
        terms("how many of the two are so", () -> {
            String town = "town 2 1;person 0;person 0;person 0;person 0;";
            String[] marks = {"left", "gloved", "child"};
            String[] words = {"left", "gloves", "children"};
            for (int i = 0; i < 3; i++) {
                PalmCensus x = ruled(town + marks[i] + " 1;" + marks[i] + " 2", "shake " + words[i]);
                due(words[i] + ", none", x.shake(0, 3, 0), 0);
                due(words[i] + ", one", x.shake(0, 1, 0), 1);
                due(words[i] + ", one", x.shake(2, 3, 0), 1);
                due(words[i] + ", both", x.shake(1, 2, 0), 2);
            }
        });
        terms("crowd (PEOPLE at that GATE in that HOUR)", () -> {
            PalmCensus x = ruled("town 2 2;person 00;person 00" + ";person 01".repeat(8), "shake crowd");
            due("full", x.shake(0, 1, 0), 10);
            due("two alone", x.shake(0, 1, 1), 2);
            due("the others", x.shake(8, 9, 1), 8);
        });
    }

    private static void arithmetic() {
        // Only what has gone round in 64 bits is below 0 where a / or % stands: this is the least number there.
        String least = "shake 65536*65536*65536*32768";
        terms("/ is towards 0", () -> {
            counts("shake 7/2", 3);
            counts("shake 1/2", 0);
            counts(least + "/3%1000", -602);
        });
        terms("% its rest", () -> {
            counts("shake 7%2", 1);
            counts("shake 4%2", 0);
            counts(least + "%3", -2);
        });
        terms("both 0 by 0", () -> {
            counts("shake 7/0", 0);
            counts("shake 7%0", 0);
            counts("shake 0/0 + 0%0 + 1", 1);
            counts("shake 7/met + 7%day", 0);
            counts("shake 5 + 7/0*3", 5);
            counts("shake 1 if 7/0 = 7%0", 1);
        });
        terms("all goes round in 64 bits", () -> {
            counts(least, -999);
            counts(least + " - 1", 999);
            counts(least + " * 2", 0);
            counts("shake 65536*65536*65536*32767 + 65536*65536*65536", -999);
            counts("shake 65536*65536*65536*32767 + 65536*65536*65536 - 1", 999);
            counts("shake 1 if 65536*65536*65536*32768 < 0", 1);
            counts("shake 1 if 65536*65536*65536*32768 - 1 > 0", 1);
            counts("shake 65536*65536*65536*65536 + 7", 7);
            counts("shake 65536*65536/65536/65536", 1);
        });
        terms("Blanks (32) stand between as one likes", () -> {
            counts("  shake   1+ 2  *3 if  [ 1=1 ]  and  not[1 <= 0]  ", 7);
            counts("shake1+2*3if[1=1]and not[1<=0]", 7);
            badRule("sha ke 1", 0, 0);
            badRule("shake 1 0", 8, 0);
            badRule("shake 1 if 1 < = 1", 15, 0);
            badRule("shake\t1", 5, 0);
            badRule("shake\n1", 5, 0);
            badRule("shake\u00001", 5, 0);
            badRule("shake\u00a01", 5, 0);
            goodTown("  town  2  1  ;  person  0  ;  left  0  ", 1);
            goodTown("town2 1;person0;person0;left0;kin0 1;counter0", 2);
            badTown("town 21", 5, 1);
        });
    }

    private static void depthAndSize() {
        terms("[ and not lie within one another 10 deep at most", () -> {
            counts("shake 1 if " + "[".repeat(10) + "1=1" + "]".repeat(10), 1);
            counts("shake 1 if " + "not ".repeat(10) + "1=1", 1);
            counts("shake 1 if " + "not[".repeat(5) + "1=1" + "]".repeat(5), 0);
            counts("shake 1 if " + "[not ".repeat(5) + "1=1" + "]".repeat(5), 0);
            counts("shake 1 if " + "[".repeat(10) + "1=0" + "]".repeat(10) + " or " + "[".repeat(10) + "1=1" + "]".repeat(10), 1);
            String nine = "[".repeat(9);
            String ends = "]".repeat(9);
            counts("shake 1 if " + nine + "not 1=0" + ends + " and not " + nine + "1=0" + ends, 1);
            badRule("shake 1 if " + "[".repeat(11) + "1=1" + "]".repeat(11), 21, 2);
            badRule("shake 1 if " + "not ".repeat(11) + "1=1", 51, 2);
            badRule("shake 1 if " + "not[".repeat(5) + "not 1=1", 31, 2);
            badRule("shake 1 if " + "not[".repeat(5) + "[", 31, 2);
            badRule("shake 1 if 1=1 and " + "[".repeat(11), 29, 2);
        });
        terms("at most 60 VALUES (of SUMS) and FACTS made of a SIGN, together", () -> {
            counts(values(60), 60);
            counts(values(57) + " if 1=1", 57);
            counts(values(59) + ";shake 1", 59);
            counts(values(54) + " if not [not 1=1 and 1=1]", 54);
            badRule(values(61), values(61).length() - 1, 3);
            badRule(values(58) + " if 1=1", values(58).length() + 6, 3);
            badRule(values(59) + " if 1=1", values(59).length() + 5, 3);
            badRule(values(60) + " if 1=1", values(60).length() + 4, 3);
            badRule(values(60) + ";shake 1", values(60).length() + 7, 3);
            PalmCensus x = new PalmCensus();
            due("one too many", rule(x, values(61)), fault(values(61).length() - 1, 3));
            for (int r = 0; r < 6; r++) {
                due("60 in each RULE", rule(x, values(60)), r);
            }
        });
    }

    private static void faults() {
        terms("FAULTS, the first along the text, 1 + 8 * its place and", () -> {
            badTown("x", 0, 0);
            due("at place 0", town(new PalmCensus(), "x"), -3);
            due("behind 400 bytes", town(new PalmCensus(), "town 2 1" + " ".repeat(391) + ";"), -3203);
            badTown("town 2 1;left 0;town 2 1;lift", 14, 1);
            badTown("town 2 1;town;left 0", 9, 4);
            badTown("town 1 0", 5, 1);
            badTown("town 2 2;person 29", 16, 1);
            badTown("town 2 2;person x9", 16, 0);
            badRule("shake 1 if " + "[".repeat(11) + "123456", 21, 2);
            badRule("shake 123456 if " + "[".repeat(11), 6, 1);
        });
        terms("0 a byte or WORD that can't stand there, or the end (behind the last byte)", () -> {
            badTown("town 2 1\u00ff", 8, 0);
            badTown("town 2 1;people 0", 9, 0);
            badTown("town 2 1;person", 15, 0);
            badTown("town 2 1;person  ", 17, 0);
            badTown("town 2 1;shake 1", 9, 0);
            badRule("shake town", 6, 0);
            badRule("shake and", 6, 0);
            badRule("shake 1 +", 9, 0);
            badRule("shake 1 +  ", 11, 0);
            badRule("shake 1 if 1", 12, 0);
            badRule("shake 1 if [1=1  ", 17, 0);
            badRule("shake 1 if 1=1]", 14, 0);
            badRule("shake -1", 6, 0);
            badRule("shake 1 if []", 12, 0);
        });
        terms("the end (behind the last byte)", () -> {
            eachEnd("town 6 12;person 0-2345-54321;person-----------5;left 01;gloved1;child 0;kin 0 1;counter 5", true);
            eachEnd("shake 12345+crowd%3*met if not [one<=other or kin=1] and gloves>=children;shake 7", false);
        });
        terms("1 a NUMBER of more digits, or not as told (the second one of kin, if it is the first)", () -> {
            badTown("town 2 1;person 0;person 0;kin 0 0", 33, 1);
            badTown("town 2 1;person 0;person 0;kin 1  00001", 34, 1);
            badTown("town 2 1;person 0;person 0;kin 2 2", 31, 1);
            badTown("town 2 1;person 0;left 000000", 23, 1);
            badTown("town 2 1;person 0;left 00000x", 28, 0);
        });
        terms("a sign of a ROW that is a digit, but no GATE (at it)", () -> {
            badTown("town 2 3;person 012", 18, 1);
            badTown("town 2 3;person 2", 16, 1);
            badTown("town 6 3;person 5-6", 18, 1);
            badTown("town 6 3;person 9--", 16, 1);
        });
        terms("2 too deep (at the sign that opens, or the word not)", () -> {
            badRule("shake 1 if " + "[".repeat(10) + "   [", 24, 2);
            badRule("shake 1 if " + "[".repeat(10) + "   not", 24, 2);
            badRule("shake 1 if " + "[".repeat(10) + "1=1 and  not", 30, 2);
        });
        terms("3 one VALUE or FACT too many (at its first byte; of a FACT at its SIGN)", () -> {
            badRule(values(60) + " +  gloves", values(60).length() + 4, 3);
            badRule(values(60) + " +  12345", values(60).length() + 4, 3);
            badRule(values(59) + " if met  >= 1", values(59).length() + 9, 3);
            badRule(values(59) + " if met  <", values(59).length() + 9, 3);
        });
        terms("4 one CLAUSE too many, a second town, another CLAUSE ahead of it, an 11th PERSON (at its first byte)", () -> {
            String forty = "town 2 1;person 0" + ";left 0".repeat(38);
            for (String word : new String[] {"town", "person", "left", "gloved", "child", "kin", "counter"}) {
                badTown(forty + ";  " + word, forty.length() + 3, 4);
            }
            badTown("town 2 1;  town", 11, 4);
            badTown("  counter", 2, 4);
            String ten = "town 2 1" + ";person 0".repeat(10);
            goodTown(ten, 10);
            badTown(ten + ";  person 9", ten.length() + 3, 4);
            badTown(ten + ";person", ten.length() + 1, 4);
        });
        terms("Of one place the least", () -> {
            String forty = "town 2 1;person 0" + ";left 0".repeat(38);
            badTown(forty + ";lift 0", forty.length() + 1, 0);
            badTown(forty + ";", forty.length() + 1, 0);
            badTown("lift 0", 0, 0);
            badRule("shake 1" + ";shake 1".repeat(11) + ";shook", 96, 0);
            badRule(values(60) + "+123456", values(60).length() + 1, 1);
            badRule(values(60) + "+mat", values(60).length() + 1, 0);
            badRule(values(60) + "+", values(60).length() + 1, 0);
            badRule(values(59) + " if 1!1", values(59).length() + 5, 0);
            badRule("shake 1 if " + "[".repeat(10) + "nott 1=1", 21, 0);
        });
    }

    /** Each begin of a text ends in the same way where it ends the TAPE's 400 bytes, as where it stands alone. */
    private static void eachEnd(String text, boolean isTown) {
        for (int k = 1; k <= text.length(); k++) {
            String begin = text.substring(0, k);
            int ahead = 400 - k;
            PalmCensus x = new PalmCensus();
            PalmCensus y = new PalmCensus();
            int alone = isTown ? town(x, begin) : rule(x, begin);
            int last = isTown ? town(y, " ".repeat(ahead) + begin) : rule(y, " ".repeat(ahead) + begin);
            due("at the end of 400 bytes: " + begin, last, alone < 0 ? alone - 8 * ahead : alone);
        }
    }

    private static void lifeOfAnObject() {
        terms("at most 512 calls after it has been made", () -> {
            PalmCensus x = townOf(TOWN);
            int calls = 1 + (TOWN.length() + 19) / 20 + 2;
            for (int night = 1; calls < 512; night++, calls++) {
                due("call " + (calls + 1), x.night(), night);
            }
        });
        terms("The constants: `NONE = -1`", () -> due("NONE", PalmCensus.NONE, -1));
    }

    private static void gives(String marks, int want) {
        PalmCensus x = townOf("town 2 1;person 0;person 0" + marks);
        due("shake of two" + marks, x.shake(0, 1, 0), want);
        due("sum of two" + marks, x.sum(0, 0), want);
    }

    private static void shakes() {
        terms("in which they are at one GATE", () -> {
            PalmCensus x = townOf("town 2 2;person 0-;person 1-;person 0-");
            due("at one", x.shake(0, 2, 0), 4);
            due("at two", x.shake(0, 1, 0), -1000);
            due("at home", x.shake(0, 2, 1), -1000);
            due("one alone", x.shake(0, 0, 0), -1000);
        });
        terms("the SUM of its first CLAUSE without a TEST, or whose TEST holds, 0 without", () -> {
            counts("shake 3;shake 4", 3);
            counts("shake 3 if 1=0;shake 4 if 1=1;shake 5", 4);
            counts("shake 3 if 1=0;shake 4 if 1=0;shake 5", 5);
            counts("shake 3 if 1=1;shake 4", 3);
            counts("shake 3 if 1=0", 0);
            counts("shake 3 if 1=0;shake 4 if 1=0", 0);
        });
        terms("held to -999 to 999", () -> {
            counts("shake 998", 998);
            counts("shake 999", 999);
            counts("shake 1000", 999);
            counts("shake 0 - 998", -998);
            counts("shake 0 - 999", -999);
            counts("shake 0 - 1000", -999);
            counts("shake 2000 - 1500", 500);
            counts("shake 7 if 1000 > 999", 7);
        });
        terms("the first time of a DAY that they MEET what both give together, twice that if they are kin; later 0", () -> {
            PalmCensus x = townOf("town 2 3;person 000;person 0-0;person 010;kin 0 2");
            due("first", x.shake(0, 1, 0), 4);
            due("later", x.shake(0, 1, 2), 0);
            due("kin, first", x.shake(0, 2, 0), 8);
            due("kin, later", x.shake(0, 2, 2), 0);
            x.night();
            due("a DAY on", x.shake(0, 1, 0), 4);
            due("first in the last HOUR", townOf("town 2 12;person -----------0;person -----------0").shake(0, 1, 11), 4);
        });
        terms("One gives 2, a child 1; gloved 0; with a left hand so much less than nothing", () -> {
            gives("", 4);
            gives(";child 0", 3);
            gives(";child 0;child 1", 2);
            gives(";gloved 0", 2);
            gives(";gloved 0;gloved 1", 0);
            gives(";left 0", 0);
            gives(";left 0;child 0", 1);
            gives(";left 0;child 1", -1);
            gives(";left 0;left 1", -4);
            gives(";left 0;left 1;child 0;child 1", -2);
            gives(";left 0;left 1;kin 0 1", -8);
            gives(";left 0;gloved 0", 2);
            gives(";left 0;gloved 0;child 0", 2);
            gives(";left 0;gloved 1", -2);
        });
    }

    private static void sumsAndTotals() {
        terms("The SUM of a GATE in an HOUR: all SHAKES there", () -> {
            PalmCensus x = townOf("town 3 1;person 1" + ";person 2".repeat(9));
            due("of nobody", x.sum(0, 0), 0);
            due("of one alone", x.sum(1, 0), 0);
            due("of nine", x.sum(2, 0), 36 * 4);
            due("of ten", townOf("town 2 1" + ";person 1".repeat(10)).sum(1, 0), 45 * 4);
        });
        terms("TOTAL: of all GATES, in all HOURS", () -> {
            String all = "town 6 12" + ";person 555555555555".repeat(10);
            due("the greatest", ruled(all, "shake 1000").total(), 12 * 45 * 999);
            due("the least", ruled(all, "shake 0 - 1000").total(), -12 * 45 * 999);
            due("of nobody", townOf("town 6 12").total(), 0);
            due("the last HOUR's", townOf("town 6 12;person -----------5;person -----------5").total(), 4);
        });
        terms("HEARD: the SUM of a GATE with a COUNTER", () -> {
            PalmCensus x = townOf("town 2 1;person 0;person 0;person 1;person 1;counter 1");
            due("with one", x.heard(1, 0), 4);
            due("without", x.heard(0, 0), NO);
            x.counter(1, false);
            due("it has left", x.heard(1, 0), NO);
        });
    }

    private static void acts() {
        terms("a DAY goes by (9999 at most)", () -> {
            PalmCensus x = townOf("town 2 1");
            for (int day = 1; day < 9999; day++) {
                x.night();
            }
            due("the last", x.night(), 9999);
            due("no more", x.night(), -1);
            due("DAY", x.count(5), 9999);
            x.undo();
            due("DAY", x.count(5), 9998);
            due("the last again", x.night(), 9999);
        });
        terms("The last 20 ACTS can be UNDONE, the last first", () -> {
            PalmCensus x = townOf(TOWN);
            String[] were = new String[25];
            for (int i = 0; i < 25; i++) {
                were[i] = stateOf(x);
                switch (i % 4) {
                    case 0 -> x.go(i % 3, i / 4 % 4, x.at(i % 3, i / 4 % 4) == 2 ? 99 : 2);
                    case 1 -> yes("glove", x.glove(i % 3, x.person(i % 3, 1) == 0));
                    case 2 -> yes("counter", x.counter(i % 3, (x.count(6) >> i % 3 & 1) == 0));
                    default -> x.night();
                }
                due("ACTS", x.count(10), Math.min(20, i + 1));
            }
            for (int i = 24; i >= 5; i--) {
                due("undo", x.undo(), i - 5);
                due("as it was ahead of ACT " + i, stateOf(x).equals(were[i]) ? 1 : 0, 1);
            }
            due("no 21st", x.undo(), -2);
            due("nothing happened", stateOf(x).equals(were[5]) ? 1 : 0, 1);
        });
    }

    /** What ACTS can change. */
    private static String stateOf(PalmCensus x) {
        StringBuilder b = new StringBuilder();
        b.append(x.count(5)).append(' ').append(x.count(6));
        for (int p = 0; p < x.count(2); p++) {
            b.append(' ').append(x.person(p, 1));
            for (int h = 0; h < x.count(1); h++) {
                b.append(' ').append(x.at(p, h));
            }
        }
        return b.toString();
    }

    private static void worlds() {
        terms("(By what is asked nothing changes.)", () -> {
            for (int i = -1; i < 6; i++) {
                int n = i;
                idle(RICH, "worlds(" + n + ")", x -> x.worlds(n) & 0, 0);
                idle(RICH, "ask(" + n + ")", x -> x.ask(n) & 0, 0);
                idle(RICH, "gates(" + n + ")", x -> x.gates(n) & 0, 0);
                idle(RICH, "odd(" + n + ")", x -> x.odd(n) & 0, 0);
                idle(RICH, "busy(" + n + ")", x -> x.busy(n) & 0, 0);
                idle(RICH, "cheat(" + n + ", 0)", x -> x.cheat(n, 0) & 0, 0);
                idle(RICH, "drawn(9, 60, " + n + ")", x -> x.drawn(9, 60, n) & 0, 0);
                idle(RICH, "passes, have", x -> x.passes(n, 1) + x.have(n, 3) & 0, 0);
                idle(RICH, "shook", x -> x.shook(0, n) & 0, 0);
                idle(RICH, "rounds", x -> x.rounds(15, n) & 0, 0);
                idle(RICH, "at, person, crowd", x -> x.at(n, n) + x.person(1, n) + x.crowd(n, 1) & 0, 0);
                idle(RICH, "shake, sum, heard", x -> x.shake(n, 1, 3) + x.sum(n, 1) + x.heard(n, 1) & 0, 0);
            }
            idle(RICH, "the rest", x -> x.total() + x.street(7, 0, 3) + x.shuns() + x.islands() + x.census() & 0, 0);
        });
        terms("(By what is asked nothing changes.)", () -> {
            PalmCensus x = townOf("town 2 2;person 00;person 00;person -1;person -1;kin 2 3");
            for (int times = 0; times < 2; times++) {
                due("busy(0)", x.busy(0), 1);
                due("busy(1)", x.busy(1), 1);
                cheats(x, 0, 12 + 4 + 4, 1, 1);
                asks(x, 0, 0, 12);
                cheats(x, 2, 12 + 4 + 4, 0, 0);
                odds(x, -2, -2);
                worldsAre(x, 16, 0, 4, 0, 0);
            }
            x.go(2, 1, 99);
            due("busy(1) then", x.busy(1), 0);
            cheats(x, 3, 12, 0, 0);
            cheats(x, 0, 8, 1, 1);
            // They MEET twice that DAY, and count once.
            rule(x, "shake 1 if gloves = 2 and hour = 0");
            rule(x, "shake 2");
            x.force(0);
            odds(x, 2, 3);
            x.force(1);
            odds(x, -2, -2);
        });
        terms("the others are not (crowd counts those who are there)", () -> {
            PalmCensus x = ruled("town 2 1" + ";person 0".repeat(10), "shake crowd");
            x.told(0, 0, 2);
            due("worlds of two", x.worlds(0), 45);
            due("two", x.worlds(2), 2);
            x.told(-1, 0, 0);
            x.told(0, 0, 450);
            due("the world of all", x.worlds(0), 1);
            due("all", x.worlds(3), 1023);
            x.told(-1, 0, 0);
            x.told(0, 0, 9);
            due("worlds of three", x.worlds(0), 120);
            due("three, behind ten", x.worlds(2), 3);
        });
        terms("TOLD, 10 at most", () -> {
            PalmCensus x = townOf(TOWN);
            for (int i = 1; i <= 10; i++) {
                due("told", x.told(0, 0, 0), i);
            }
            due("an 11th", x.told(0, 0, 1), -2);
            due("the 11th was not taken", x.worlds(0) > 0 ? 1 : 0, 1);
            x.told(-1, 0, 0);
            for (int i = 1; i <= 9; i++) {
                x.told(0, 1, 2);
            }
            due("by nine", x.worlds(0), 2);
            x.told(0, 1, 3);
            due("by the tenth, too", x.worlds(0), 0);
        });
        terms("how many, the fewest and the most PEOPLE in one, who is in each of them, who in none", () -> {
            worldsAre(townOf("town 2 1"), 1, 0, 0, 0, 0);
            worldsAre(townOf("town 2 1;person 0"), 2, 0, 1, 0, 0);
            worldsAre(townOf("town 2 1" + ";person 0".repeat(10)), 1024, 0, 10, 0, 0);
            PalmCensus x = townOf("town 2 1;person 0;person 0;person 0;left 1;child 2");
            // The SUMS: 0 with 1: 0, 0 with 2: 3, 1 with 2: -1, all: 2.
            x.told(0, 0, 3);
            worldsAre(x, 1, 2, 2, 5, 2);
            x.told(-1, 0, 0);
            x.told(0, 0, 0);
            worldsAre(x, 5, 0, 2, 0, 0);
            x.told(0, 0, 1);
            worldsAre(x, 0, -2, -2, 0, 0);
        });
    }

    private static void worldsAre(PalmCensus x, int... want) {
        for (int what = 0; what < want.length; what++) {
            due("worlds(" + what + ")", x.worlds(what), want[what]);
        }
    }

    private static void asks(PalmCensus x, int gate, int hour, int most) {
        due("ask(0)", x.ask(0), gate);
        due("ask(1)", x.ask(1), hour);
        due("ask(2)", x.ask(2), most);
    }

    private static void asking() {
        terms("the most with one SUM are fewest; of several the least HOUR, then the least GATE; how many those are", () -> {
            asks(townOf("town 2 1"), 0, 0, 1);
            asks(townOf("town 2 2;person 1-;person -1"), 0, 0, 4);
            asks(ruled("town 2 2;person 10;person 10", "shake 1"), 1, 0, 3);
            asks(ruled("town 4 2;person 13;person 13;person 30;person 30", "shake 1"), 1, 0, 12);
            asks(ruled("town 2 2;person 01;person 01;person -1", "shake 1"), 1, 1, 4);
            PalmCensus x = ruled("town 2 12" + ";person -----------1".repeat(10), "shake 1");
            asks(x, 1, 11, 252);
            x.told(1, 11, 45);
            asks(x, 0, 0, 1);
            // Of the three at GATE 1: the SUMS 0 (four times), 8, 3, 6 and 17; of the two at GATE 0: 0 (three times) and 4.
            String apart = "town 2 1;person 1;person 0;person 1;person 0;person -;person 1;kin 0 2;kin 2 5;child 5";
            asks(townOf(apart), 1, 0, 4 * 8);
        });
        terms("the most with one SUM are fewest", () -> {
            // All of two and more count this SUM in all, the five of one and none count 0.
            String rule = "shake SUM if crowd = 2 or one = 0 and other = 1 or one = 2 and crowd = 3";
            for (int sum = 1; sum <= 999; sum++) {
                String town = "town 2 1" + ";person 1".repeat(4);
                due("of " + sum, ruled(town, rule.replace("SUM", "" + sum)).ask(2), 11);
                due("of -" + sum, ruled(town, rule.replace("SUM", "0 - " + sum)).ask(2), 11);
            }
        });
        terms("one knows in each WORLD how many are there (8 PEOPLE at most)", () -> {
            due("nobody", townOf("town 2 1").gates(0), 0);
            due("one, who may be there or not", townOf("town 2 1;person 0").gates(0), -2);
            due("8", townOf("town 2 1" + ";person 0".repeat(8)).gates(0), -2);
            due("9", townOf("town 2 1" + ";person 0".repeat(9)).gates(0), -3);
        });
        terms("the fewest by whose SUMS in all HOURS one knows", () -> {
            PalmCensus x = townOf("town 6 12;counter 5");
            due("nobody has to be counted", x.gates(0), 0);
            due("by the empty set", x.gates(1), 0);
        });
    }

    private static void cheats(PalmCensus x, int person, int total, int hour, int place) {
        due("cheat(" + person + ", 0)", x.cheat(person, 0), total);
        due("cheat(" + person + ", 1)", x.cheat(person, 1), hour);
        due("cheat(" + person + ", 2)", x.cheat(person, 2), place);
    }

    private static void cheatsAndOdds() {
        terms("elsewhere, also if it is less then", () -> {
            cheats(townOf("town 2 1;person 0;person 0"), 0, 0, 0, 99);
            cheats(ruled("town 2 1;person 0;person 0", "shake 0 - 5"), 0, 0, 0, 99);
            cheats(ruled("town 2 1;person 0;person 1;person 1", "shake 0 - 5 if one = 0;shake 1"), 0, 1, 0, 99);
            cheats(ruled("town 2 1;person -;person 0;person 1", "shake 0 - 5"), 0, -5, 0, 0);
            cheats(ruled("town 6 12;person ------------" + ";person 012345012345".repeat(2), "shake 0 - 5"), 0, -60, 0, 1);
        });
        terms("one HOUR elsewhere by which TOTAL is greatest", () -> {
            cheats(ruled("town 2 3;person 00-;person 000", "shake 1 if met = 0;shake 5"), 0, 11, 2, 0);
            cheats(ruled("town 2 2;person -0;person 00", "shake 1 if met = 0;shake 10 * one + other * 3"), 0, 4, 0, 0);
            cheats(ruled("town 2 3;person -00;person 000", "shake met"), 0, 3, 0, 0);
            cheats(ruled("town 2 3;person -00;person 000", "shake met"), 1, 1, 0, 99);
            cheats(ruled("town 2 1;person 0;person 0;person 1", "shake crowd"), 2, 9, 0, 0);
        });
        terms("of several the least HOUR, then home, then the least GATE", () -> {
            cheats(townOf("town 3 2;person 0-"), 0, 0, 0, 99);
            cheats(townOf("town 3 2;person -0"), 0, 0, 0, 0);
            cheats(townOf("town 3 1;person -;person 1;person 2"), 0, 4, 0, 1);
            cheats(townOf("town 6 12;person ------------;person -----------5"), 0, 4, 11, 5);
            String town = "town 3 2;person 00;person 2-;person -0";
            cheats(ruled(town, "shake 4 if hour = 0;shake 0 - 4"), 0, 0, 0, 2);
        });
        terms("the fewest PEOPLE whose gloves are turned (on, or off) so that TOTAL is odd", () -> {
            odds(townOf("town 2 1;person 0;person 0;child 0"), 0, 0);
            odds(townOf("town 2 1;person 0;person 0;child 0;gloved 0"), 1, 1);
            odds(townOf("town 2 1;person 0;person 0;child 0;child 1"), 1, 1);
            odds(townOf("town 2 1;person 0;person 0"), -2, -2);
            odds(townOf("town 2 1;person 0;person -;child 0"), -2, -2);
            odds(townOf("town 2 1"), -2, -2);
            odds(ruled("town 2 1;person 0;person 0", "shake 0 - 3"), 0, 0);
            odds(townOf("town 2 1;person 0;person 0;child 1;gloved 1"), 1, 2);
            odds(ruled("town 2 1" + ";person 0".repeat(4), "shake 1"), -2, -2);
            odds(ruled("town 2 1" + ";person 0".repeat(3), "shake gloves"), -2, -2);
            odds(ruled("town 2 1;person 0;person 0;person 1;person 1", "shake gloves if one = 2;shake 1 if gloves = 2"), 1, 4);
        });
        terms("of several sets the least as bits", () -> {
            odds(ruled("town 2 1;person 0;person 0;person 0", "shake 1 if gloves = 2"), 2, 3);
            odds(ruled("town 2 1;person 0;person 0;person 0", "shake 1 if gloves = 2 and other = 2"), 2, 5);
            String ten = "town 2 1" + ";person 0".repeat(10);
            odds(ruled(ten, "shake 1 if gloves = 2 and one = 8"), 2, 768);
            odds(ruled(ten, "shake 1 if gloves = 2 and one = 7; shake gloves if one = 8"), 1, 256);
        });
    }

    private static void odds(PalmCensus x, int howMany, int set) {
        due("odd(0)", x.odd(0), howMany);
        due("odd(1)", x.odd(1), set);
    }

    private static void shuns() {
        terms("(0 to 9; of one the last told)", () -> {
            PalmCensus x = townOf("town 2 1" + ";person 0".repeat(4));
            yes("the least", x.palms(0, 0));
            due("shuns", x.shuns(), 8);
            yes("the most", x.palms(0, 9));
            due("shuns", x.shuns(), 0);
            yes("the last told", x.palms(0, 3));
            due("shuns", x.shuns(), 8);
            due("of one", x.count(9), 1);
            no("too few", x.palms(0, -2));
            no("too many", x.palms(0, 10));
        });
        terms("16 twos who MEET at most", () -> {
            String six = "town 6 1" + ";person 0".repeat(6);
            due("15", townOf(six).shuns(), 1 << 15);
            due("16", townOf(six + ";person 1;person 1").shuns(), 1 << 16);
            due("16", townOf(six + ";person 1;person 1").shook(0, 1), 2);
            due("17", townOf(six + ";person 1;person 1;person 2;person 2").shuns(), -3);
            due("17", townOf(six + ";person 1;person 1;person 2;person 2").shook(0, 1), -3);
        });
        terms("sets of twos who MEET, that shook, by which all PALMS are so", () -> {
            PalmCensus x = townOf("town 6 1" + ";person 0".repeat(6) + ";person 1;person 1");
            for (int p = 0; p < 6; p++) {
                x.palms(p, 1);
            }
            due("15 ways of 6 in twos, and one two free", x.shuns(), 30);
            for (int p = 0; p < 6; p++) {
                x.palms(p, 0);
            }
            due("one two free", x.shuns(), 2);
            x.palms(7, 0);
            due("the empty set alone", x.shuns(), 1);
            for (int p = 0; p < 6; p++) {
                x.palms(p, 5);
            }
            x.palms(6, 1);
            due("none", x.shuns(), 0);
            x.palms(7, 1);
            due("the full set alone", x.shuns(), 1);
        });
        terms("1 if in all of them they shook, 0 if in none, 2 else", () -> {
            PalmCensus x = townOf("town 2 1" + ";person 0".repeat(4));
            due("else", x.shook(0, 1), 2);
            x.palms(0, 3);
            due("in all", x.shook(0, 1), 1);
            due("else", x.shook(1, 2), 2);
            x.palms(1, 1);
            due("in none", x.shook(1, 2), 0);
            due("in all", x.shook(1, 0), 1);
            due("else", x.shook(3, 2), 2);
        });
    }

    private static void passesAndIslands() {
        terms("what one has at the begin of an HOUR, all have at its end who MEET that one in it", () -> {
            PalmCensus x = townOf("town 2 2;person 01;person 00;person 10;person 11");
            due("not by what comes in it", x.have(0, 0), 3);
            due("by what is there", x.have(0, 1), 15);
            due("home passes nothing", townOf("town 2 1;person -;person -").have(0, 0), 1);
        });
        terms("from a PERSON in HOUR 0 on to another one: the HOUR in which it comes", () -> {
            PalmCensus x = townOf("town 2 12;person 0-----------;person 0----------1;person -----------1");
            due("in the first", x.passes(0, 1), 0);
            due("in the last", x.passes(0, 2), 11);
            due("not back", x.passes(2, 0), -2);
        });
        terms("PEOPLE who MEET, or MEET others who do, and so on, are of one: how many (who MEETS nobody is one)", () -> {
            due("none", townOf("town 2 1").islands(), 0);
            due("one", townOf("town 2 1;person -").islands(), 1);
            due("each alone", townOf("town 2 1" + ";person -".repeat(10)).islands(), 10);
            due("all", townOf("town 2 1" + ";person 1".repeat(10)).islands(), 1);
            due("one among the others",
                townOf("town 6 2;person 0-;person 10;person 0-;person -0;person 25;person 35").islands(), 3);
            due("a chain, the last HOUR first",
                townOf("town 6 4;person ---0;person --10;person -21-;person 32--;person 3---;person ----").islands(), 2);
        });
    }

    private static void roundsAndCensus() {
        terms("so many GATES (1 to 6), if two are at a GATE at most in an HOUR", () -> {
            PalmCensus x = townOf("town 2 1" + ";person 0".repeat(10));
            int[] ofTen = {-1, 45, 23, 15, 12, 9, 9, -1};
            int[] ofNine = {-1, 36, 18, 12, 9, 9, 9, -1};
            for (int gates = 0; gates < 8; gates++) {
                due("of ten at " + gates, x.rounds(1023, gates), ofTen[gates]);
                due("of nine at " + gates, x.rounds(1022, gates), ofNine[gates]);
            }
            due("of nobody", x.rounds(0, 1), 0);
            due("of one", x.rounds(512, 1), 0);
            due("of two", x.rounds(513, 6), 1);
            due("of three", x.rounds(7, 6), 3);
        });
        terms("the number n (0 and on) of which n * (n - 1) is nearest to TOTAL; of two the greater", () -> {
            int[] totals = {0, 1, 2, 3, 4, 5, 6, 8, 9, 10, 12, 999};
            int[] numbers = {1, 2, 2, 2, 3, 3, 3, 3, 4, 4, 4, 32};
            for (int i = 0; i < totals.length; i++) {
                due("of " + totals[i], ruled("town 2 1;person 0;person 0", "shake " + totals[i]).census(), numbers[i]);
            }
            due("of -1", ruled("town 2 1;person 0;person 0", "shake 0 - 1").census(), 1);
            String all = "town 2 12" + ";person 000000000000".repeat(10);
            due("of the least", ruled(all, "shake 0 - 999").census(), 1);
            due("of the greatest", ruled(all, "shake 999").census(), 735);
        });
    }

    private static void streetsAndBusy() {
        terms("TOTAL of a set of GATES from an HOUR to another one", () -> {
            PalmCensus x = ruled("town 6 12" + ";person 555555555555".repeat(2), "shake hour + 1");
            due("all", x.street(63, 0, 11), 78);
            due("the first HOUR", x.street(32, 0, 0), 1);
            due("the last HOUR", x.street(32, 11, 11), 12);
            due("both ends count", x.street(32, 10, 11), 23);
            due("the others", x.street(31, 0, 11), 0);
            due("the empty set", x.street(0, 0, 11), 0);
        });
        terms("the greatest SUM; of several the least HOUR, then the least GATE", () -> {
            busiest(townOf("town 2 1"), 0, 0);
            busiest(ruled("town 2 2;person 10;person 10", "shake 1"), 1, 0);
            busiest(ruled("town 4 2;person 22;person 22;person 33;person 33", "shake 1"), 2, 0);
            busiest(ruled("town 2 1;person 0;person 0;person 1;person 1", "shake 0 - 2 + gate"), 1, 0);
            busiest(ruled("town 6 12;person -----------5;person -----------5", "shake 1"), 5, 11);
        });
    }

    private static void busiest(PalmCensus x, int gate, int hour) {
        due("busy(0)", x.busy(0), gate);
        due("busy(1)", x.busy(1), hour);
    }

    private static long next(long x) {
        return (x * 1103515245L + 12345L) % 2147483648L;
    }

    /** What two count who are at GATE 0 in the one HOUR, each DAY that is drawn. */
    private static int[] totalsDrawn(long seed, int m, int p, int gates) {
        int[] totals = new int[m];
        long x = seed;
        for (int day = 0; day < m; day++) {
            long[] places = new long[2];
            for (int person = 0; person < 2; person++) {
                x = next(x);
                if (x / 65536 % 100 < p) {
                    x = next(x);
                    places[person] = x / 65536 % (gates + 1);
                }
            }
            totals[day] = places[0] == places[1] && places[0] != gates ? 3 : 0;
        }
        return totals;
    }

    private static void drawsAre(int gates, int seed, int m, int p) {
        PalmCensus x = ruled("town " + gates + " 1;person 0;person 0", "shake 3");
        x.seed(seed);
        int threes = 0;
        for (int total : totalsDrawn(seed, m, p, gates)) {
            threes += total / 3;
        }
        String call = "of " + gates + ", " + seed + ": drawn(" + m + ", " + p;
        due(call + ", 0)", x.drawn(m, p, 0), 3 * threes);
        due(call + ", 1)", x.drawn(m, p, 1), threes);
        due(call + ", 2)", x.drawn(m, p, 2), threes);
        due("x behind " + call, x.count(11), seed);
    }

    private static void draws() {
        terms("x (0 to 2147483647; 0 at first)", () -> {
            PalmCensus x = new PalmCensus();
            due("at first", x.count(11), 0);
            due("seed", x.seed(2147483647), 0);
            due("the most", x.count(11), 2147483647);
            due("seed", x.seed(0), 2147483647);
            due("the least", x.count(11), 0);
        });
        terms("x * 1103515245 + 12345, of 2147483648 the rest; a DRAW is x / 65536", () -> {
            int[] seeds = {0, 1, 65535, 65536, 12345, 1103515245, 1073741823, 1073741824, 2147483646, 2147483647};
            for (int seed : seeds) {
                for (int p = 0; p <= 100; p += 20) {
                    drawsAre(2, seed, 20, p);
                }
            }
        });
        terms("DAYS drawn m times (1 to 20)", () -> {
            PalmCensus x = townOf("town 2 1;person 0;person 0");
            due("0", x.drawn(0, 0, 2), NO);
            due("1", x.drawn(1, 0, 2), 1);
            due("20", x.drawn(20, 0, 2), 20);
            due("21", x.drawn(21, 0, 2), NO);
            for (int m = 1; m <= 20; m++) {
                drawsAre(2, 77, m, 70);
            }
        });
        terms("of each PERSON, of each HOUR a DRAW mod 100; if it is below p (0 to 100)", () -> {
            due("-1", townOf("town 2 1;person 0;person 0").drawn(1, -1, 0), NO);
            due("101", townOf("town 2 1;person 0;person 0").drawn(1, 101, 0), NO);
            for (int seed = 1; seed < 60; seed++) {
                int first = (int) (next(seed) / 65536 % 100);
                drawsAre(2, seed, 1, first);
                drawsAre(2, seed, 1, first + 1);
                drawsAre(2, seed, 20, 0);
                drawsAre(2, seed, 20, 100);
            }
        });
        terms("a DRAW mod GATES and 1 more: they are there instead (that one more: at home)", () -> {
            for (int gates = 2; gates <= 6; gates++) {
                for (int seed = 0; seed < 200; seed += 7) {
                    drawsAre(gates, seed, 5, 100);
                }
            }
        });
        terms("TOTALS together; how often TOTAL is odd; how often it is as it is without", () -> {
            String all = "town 2 12" + ";person 000000000000".repeat(10);
            due("the greatest", ruled(all, "shake 999").drawn(20, 0, 0), 20 * 12 * 45 * 999);
            due("the least", ruled(all, "shake 0 - 999").drawn(20, 0, 0), -20 * 12 * 45 * 999);
            String two = "town 2 1;person 0;person 0";
            due("never odd", ruled(two, "shake 2").drawn(20, 0, 1), 0);
            due("always odd", ruled(two, "shake 3").drawn(20, 0, 1), 20);
            due("always odd below 0", ruled(two, "shake 0 - 3").drawn(20, 0, 1), 20);
            due("always as without", ruled(two, "shake 2").drawn(20, 0, 2), 20);
            due("always as without, wherever they are", ruled(two, "shake 0").drawn(20, 100, 2), 20);
            due("nobody", townOf("town 2 1").drawn(20, 100, 2), 20);
        });
        terms("nothing stays; x as it was", () -> {
            idle(RICH, "drawn", x -> x.drawn(20, 100, 2) & 0, 0);
            idle(PLAIN, "drawn", x -> x.drawn(20, 100, 0) & 0, 0);
        });
    }

    private static void images() {
        terms("IMAGES 0 to 3", () -> {
            PalmCensus x = townOf("town 2 1");
            for (int k = 0; k < 4; k++) {
                due("image", x.image(k), k);
                x.night();
            }
            due("no 5th", x.image(4), -1);
            for (int k = 3; k >= 0; k--) {
                due("back", x.back(k), k);
                due("DAY", x.count(5), k);
            }
            due("no 5th", x.back(4), -1);
        });
        terms("all but the TAPE and the RULES, as it is (the RULE IN FORCE, what can be UNDONE, too)", () -> {
            PalmCensus x = new PalmCensus();
            RICH.accept(x);
            x.image(0);
            x.force(1);
            x.told(-1, 0, 0);
            for (int i = 0; i < 10; i++) {
                x.told(2, 0, 7);
            }
            for (int i = 0; i < 20; i++) {
                x.go(0, 3, i % 2);
            }
            x.palms(1, 1);
            x.seed(9);
            town(x, "town 6 1");
            tape(x, "town 2 1;person 0;person 0;kin 0 1");
            x.back(0);
            PalmCensus want = new PalmCensus();
            RICH.accept(want);
            want.image(0);
            same("gone back to", x, want);
        });
        terms("gone back to, it is as it was (these stay)", () -> {
            PalmCensus x = townOf(TOWN);
            x.image(0);
            rule(x, "shake 5");
            tape(x, "abc");
            x.night();
            due("back", x.back(0), 0);
            due("the RULES stay", x.count(3), 1);
            due("the TAPE stays", x.count(12), 3);
            x.night();
            due("once more", x.back(0), 0);
        });
    }
}
