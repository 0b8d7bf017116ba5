import java.util.ArrayList;
import java.util.List;

/** Promise 33 by days that really are: for each number of PEOPLE and GATES one with so many HOURS is made. */
public final class SchedulesTest {
    private static int wrong = 0;

    public static void main(String[] args) {
        for (int people = 2; people <= 10; people++) {
            PalmCensus x = CallsHelp.townOf("town 2 1" + ";person 0".repeat(people));
            for (int gates = 1; gates <= 6; gates++) {
                check(people, gates, x.rounds((1 << people) - 1, gates));
            }
        }
        System.out.println(wrong == 0 ? "all schedules are as due" : wrong + " schedules are not as due");
        if (wrong != 0) {
            System.exit(1);
        }
    }

    private static void check(int people, int gates, int hours) {
        int atOnce = Math.min(gates, people / 2);
        boolean fewerCannot = (hours - 1) * atOnce < people * (people - 1) / 2;
        int[][] when = tournament(people);
        even(when, hours);
        if (!fewerCannot || !isDay(when, hours, gates)) {
            wrong++;
            System.out.println("rounds of " + people + " at " + gates + " gates answered " + hours);
        }
    }

    /** The circle's way: who meets whom in which HOUR, of 9 for 10, and of 9 for 9. */
    private static int[][] tournament(int people) {
        int even = people + people % 2;
        int[][] when = new int[people][people];
        for (int a = 0; a < people; a++) {
            for (int b = 0; b < people; b++) {
                int last = even - 1;
                when[a][b] = a == last ? 2 * b % last : b == last ? 2 * a % last : (a + b) % last;
            }
        }
        return when;
    }

    private static int size(int[][] when, int hour) {
        int size = 0;
        for (int a = 0; a < when.length; a++) {
            for (int b = 0; b < a; b++) {
                size += when[a][b] == hour ? 1 : 0;
            }
        }
        return size;
    }

    /** While an HOUR has two meetings more than another one, they change along a chain that has one more of it. */
    private static void even(int[][] when, int hours) {
        for (int tries = 0; tries < 10000; tries++) {
            int full = 0;
            int bare = 0;
            for (int h = 0; h < hours; h++) {
                full = size(when, h) > size(when, full) ? h : full;
                bare = size(when, h) < size(when, bare) ? h : bare;
            }
            if (size(when, full) - size(when, bare) < 2) {
                return;
            }
            change(when, full, bare);
        }
    }

    private static void change(int[][] when, int full, int bare) {
        for (int start = 0; start < when.length; start++) {
            if (partner(when, start, bare) >= 0 || partner(when, start, full) < 0) {
                continue;
            }
            List<int[]> chain = new ArrayList<>();
            int at = start;
            int hour = full;
            for (int next = partner(when, at, hour); next >= 0; next = partner(when, at, hour)) {
                chain.add(new int[] {at, next});
                at = next;
                hour = hour == full ? bare : full;
            }
            if (chain.size() % 2 == 1) {
                for (int[] two : chain) {
                    int to = when[two[0]][two[1]] == full ? bare : full;
                    when[two[0]][two[1]] = to;
                    when[two[1]][two[0]] = to;
                }
                return;
            }
        }
    }

    private static int partner(int[][] when, int person, int hour) {
        for (int other = 0; other < when.length; other++) {
            if (other != person && when[person][other] == hour) {
                return other;
            }
        }
        return -1;
    }

    private static boolean isDay(int[][] when, int hours, int gates) {
        for (int h = 0; h < hours; h++) {
            if (size(when, h) > gates) {
                return false;
            }
        }
        for (int a = 0; a < when.length; a++) {
            long seen = 0;
            for (int b = 0; b < when.length; b++) {
                boolean bad = when[a][b] < 0 || when[a][b] >= hours || when[a][b] != when[b][a];
                if (a != b && (bad || (seen >> when[a][b] & 1) != 0)) {
                    return false;
                }
                seen |= a != b ? 1L << when[a][b] : 0;
            }
        }
        return true;
    }
}
