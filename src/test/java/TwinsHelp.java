import java.lang.reflect.Method;
import java.util.ArrayList;
import java.util.Arrays;
import java.util.HashMap;
import java.util.List;
import java.util.Map;

/** An object of PalmCensus and its naive twin: the same calls on both, which must answer the same. */
final class TwinsHelp {
    private static final Map<String, Method> METHODS = new HashMap<>();

    final PalmCensus mine = new PalmCensus();
    final NaiveHelp due = new NaiveHelp();
    private final List<String> past = new ArrayList<>();
    boolean isWrong = false;

    private static Method methodOf(Object of, String name) {
        return METHODS.computeIfAbsent(of.getClass().getName() + "." + name, key -> Arrays.stream(of.getClass().getMethods())
            .filter(m -> m.getName().equals(name) && m.getDeclaringClass() == of.getClass()).findFirst().orElseThrow());
    }

    private static long answer(Object of, String name, int[] args) {
        Method m = methodOf(of, name);
        Object[] given = new Object[args.length];
        for (int i = 0; i < args.length; i++) {
            given[i] = m.getParameterTypes()[i] == boolean.class ? (Object) (args[i] != 0) : (Object) args[i];
        }
        try {
            Object answer = m.invoke(of, given);
            return answer instanceof Boolean is ? (is ? 1 : 0) : ((Integer) answer);
        } catch (ReflectiveOperationException e) {
            throw new IllegalStateException(of.getClass().getName() + "." + name + Arrays.toString(args), e);
        }
    }

    /** The first answer that is not as due is told with all that was called ahead of it. */
    long call(String name, int... args) {
        long want = answer(due, name, args);
        past.add(name + Arrays.toString(args) + " = " + want);
        long got = answer(mine, name, args);
        if (got != want && !isWrong) {
            isWrong = true;
            past.forEach(System.out::println);
            System.out.println("^ answered " + got);
        }
        return want;
    }

    void feed(String text) {
        for (int from = 0; from < text.length(); from += 20) {
            int[] v = new int[5];
            for (int i = 0; i < 20; i++) {
                int b = from + i < text.length() ? text.charAt(from + i) : 0;
                v[i / 4] |= b << 24 - 8 * (i % 4);
            }
            call("feed", v[0], v[1], v[2], v[3], v[4]);
        }
    }

    /** The TAPE is this text alone, and town() or rule() takes it, in which there must be no FAULT. */
    void load(String text, String as) {
        call("end", 0);
        feed(text);
        call("end", text.length());
        if (call(as) < 0) {
            throw new IllegalArgumentException(text);
        }
    }

    /** What is there, told by the calls that ask for little. */
    void compare() {
        for (int what = 0; what < 13; what++) {
            call("count", what);
        }
        call("total");
        for (int p = 0; p < due.count(2); p++) {
            for (int h = 0; h < due.count(1); h++) {
                call("at", p, h);
            }
            call("person", p, 1);
        }
        call("worlds", 0);
        call("drawn", 2, 50, 0);
    }
}
