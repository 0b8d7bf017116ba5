/** Texts on the TAPE of an object, and what the FAULTS in them are. */
abstract class CallsHelp {
    /** The TAPE is just this text then: whether it is. */
    static boolean tape(PalmCensus x, String text) {
        x.end(0);
        for (int from = 0; from < text.length(); from += 20) {
            int[] v = new int[5];
            for (int i = 0; i < 20; i++) {
                int b = from + i < text.length() ? text.charAt(from + i) : 0;
                v[i / 4] |= b << 24 - 8 * (i % 4);
            }
            x.feed(v[0], v[1], v[2], v[3], v[4]);
        }
        return x.end(text.length()) == text.length();
    }

    /** What town() answers to a text; one too long for the TAPE has an answer that no call gives. */
    static int town(PalmCensus x, String text) {
        return tape(x, text) ? x.town() : Integer.MIN_VALUE;
    }

    static int rule(PalmCensus x, String text) {
        return tape(x, text) ? x.rule() : Integer.MIN_VALUE;
    }

    static PalmCensus townOf(String text) {
        PalmCensus x = new PalmCensus();
        if (town(x, text) < 0) {
            throw new IllegalArgumentException(text);
        }
        return x;
    }

    /** A TOWN with a RULE that is IN FORCE. */
    static PalmCensus ruled(String town, String rule) {
        PalmCensus x = townOf(town);
        if (rule(x, rule) != 0 || x.force(0) != PalmCensus.NONE) {
            throw new IllegalArgumentException(rule);
        }
        return x;
    }

    static int fault(int place, int kind) {
        return -2 - (1 + 8 * place + kind);
    }
}
