import java.util.ArrayList;
import java.util.Arrays;
import java.util.Collections;
import java.util.Comparator;
import java.util.List;
import java.util.regex.Matcher;
import java.util.regex.Pattern;

/**
 * The document told once more, as literally and as slowly as can be, to hold PressHalls against. It shares no way of
 * working with the class: orders are lists, BEST is looked for among all permutations, a text is matched by patterns.
 */
final class Oracle {
    private static final long NO = Long.MIN_VALUE;

    static final class State {
        List<int[]> jobs = new ArrayList<>();
        int mode = 0;
        int aim = 0;
        List<Integer> plan = new ArrayList<>();
        List<int[]> seen = new ArrayList<>();
        List<int[]> events = new ArrayList<>();
        List<int[]> book = new ArrayList<>();

        State copy() {
            State c = new State();
            for (int[] j : jobs) c.jobs.add(j.clone());
            c.mode = mode;
            c.aim = aim;
            c.plan.addAll(plan);
            for (int[] r : seen) c.seen.add(r.clone());
            for (int[] r : events) c.events.add(r.clone());
            for (int[] r : book) c.book.add(r.clone());
            return c;
        }
    }

    private State s = new State();
    private State picture = null;
    private StringBuilder text = new StringBuilder();
    private final Object[] tapes = new Object[6];

    private boolean isJob(int j) {
        return j >= 0 && j < s.jobs.size();
    }

    private static boolean in(long v, long low, long high) {
        return low <= v && v <= high;
    }

    int job(int a, int m, int b) {
        if (!in(a, 0, 30) || !in(m, 0, 30) || !in(b, 0, 30)) return -2;
        if (s.jobs.size() == 6) return -4;
        s.jobs.add(new int[] {a, m, b, 0, 0, 99});
        s.plan.add(s.jobs.size() - 1);
        return s.jobs.size() - 1;
    }

    int renew(int job, int what, int v) {
        if (!isJob(job) || !in(what, 0, 5)) return -1;
        int most = what <= 2 ? 30 : what <= 4 ? 9 : 99;
        if (!in(v, 0, most)) return -2;
        int old = s.jobs.get(job)[what];
        s.jobs.get(job)[what] = v;
        return old;
    }

    int of(int job, int what) {
        if (!isJob(job) || !in(what, 0, 6)) return -1;
        return what == 6 ? s.plan.indexOf(job) : s.jobs.get(job)[what];
    }

    int set(int what, int v) {
        if (!in(what, 0, 1)) return -1;
        if (!in(v, 0, 2)) return -2;
        int old;
        if (what == 0) {
            old = s.mode;
            s.mode = v;
        } else {
            old = s.aim;
            s.aim = v;
        }
        return old;
    }

    int feed(int sign) {
        if (!in(sign, 0, 127)) return -2;
        if (text.length() == 100) return -4;
        text.append((char) sign);
        return text.length();
    }

    private static final String CLAUSE = "(?:j\\d{1,2},\\d{1,2},\\d{1,2}|c\\d\\d\\d|d\\d\\d{1,2}|m\\d|a\\d)";
    private static final Pattern SETUP = Pattern.compile(CLAUSE + "(?:;" + CLAUSE + "){0,11}");

    /** Whether some set-up, of any length, begins so: the pattern could match if only more came. */
    private static boolean begins(String t) {
        Matcher m = SETUP.matcher(t);
        return m.matches() || m.hitEnd();
    }

    int read() {
        String t = text.toString();
        text = new StringBuilder();
        if (!SETUP.matcher(t).matches()) {
            for (int n = 1; n <= t.length(); n++) {
                if (!begins(t.substring(0, n))) return -10 - (n - 1);
            }
            return -10 - t.length();
        }
        int taken = 0;
        for (String clause : t.split(";")) {
            String rest = clause.substring(1);
            boolean ok;
            switch (clause.charAt(0)) {
                case 'j': {
                    String[] n = rest.split(",");
                    ok = job(Integer.parseInt(n[0]), Integer.parseInt(n[1]), Integer.parseInt(n[2])) >= 0;
                    break;
                }
                case 'c': {
                    int i = rest.charAt(0) - '0';
                    ok = isJob(i);
                    if (ok) {
                        s.jobs.get(i)[3] = rest.charAt(1) - '0';
                        s.jobs.get(i)[4] = rest.charAt(2) - '0';
                    }
                    break;
                }
                case 'd': {
                    int i = rest.charAt(0) - '0';
                    ok = isJob(i);
                    if (ok) s.jobs.get(i)[5] = Integer.parseInt(rest.substring(1));
                    break;
                }
                case 'm':
                    ok = set(0, Integer.parseInt(rest)) >= 0;
                    break;
                default:
                    ok = set(1, Integer.parseInt(rest)) >= 0;
            }
            if (ok) taken++;
        }
        return taken;
    }

    /** For each JOB number: BEGINS, DONE, LEAVES, ARRIVES, BEGINS AGAIN, ENDS, LATENESS. */
    private static long[][] times(List<int[]> jobs, List<Integer> order, int mode) {
        long[][] t = new long[jobs.size()][7];
        for (int p = 0; p < order.size(); p++) {
            int[] j = jobs.get(order.get(p));
            long[] x = t[order.get(p)];
            long[] ahead = p == 0 ? null : t[order.get(p - 1)];
            int[] aheadJob = p == 0 ? null : jobs.get(order.get(p - 1));
            x[0] = ahead == null ? 0 : ahead[2] + aheadJob[3];
            x[1] = x[0] + j[0];
            if (mode == 1) {
                x[3] = Math.max(x[1], ahead == null ? 0 : ahead[3]) + j[1];
            } else {
                x[3] = x[1] + j[1];
            }
            x[4] = Math.max(x[3], ahead == null ? 0 : ahead[5] + aheadJob[4]);
            x[5] = x[4] + j[2];
            x[2] = mode == 2 ? x[4] - j[1] : x[1];
            x[6] = x[5] - j[5];
        }
        return t;
    }

    private static long price(List<int[]> jobs, List<Integer> order, int mode, int aim) {
        long[][] t = times(jobs, order, mode);
        long[] ends = new long[order.size()];
        long[] late = new long[order.size()];
        for (int p = 0; p < order.size(); p++) {
            ends[p] = t[order.get(p)][5];
            late[p] = t[order.get(p)][6];
        }
        switch (aim) {
            case 0:
                return Arrays.stream(ends).max().getAsLong();
            case 1:
                return Arrays.stream(ends).sum();
            default:
                return Arrays.stream(late).max().getAsLong();
        }
    }

    private static List<Integer> order(List<int[]> jobs, int rule) {
        List<Integer> all = new ArrayList<>();
        for (int i = 0; i < jobs.size(); i++) all.add(i);
        if (rule == 2) all.sort(Comparator.comparingInt(i -> jobs.get(i)[0] + jobs.get(i)[1] + jobs.get(i)[2]));
        if (rule == 3) all.sort(Comparator.comparingInt(i -> jobs.get(i)[5]));
        if (rule == 1) {
            List<Integer> first = new ArrayList<>();
            List<Integer> others = new ArrayList<>();
            for (int i : all) (jobs.get(i)[0] <= jobs.get(i)[2] ? first : others).add(i);
            first.sort(Comparator.comparingInt(i -> jobs.get(i)[0] + jobs.get(i)[1]));
            others.sort(Comparator.comparingInt(i -> -(jobs.get(i)[1] + jobs.get(i)[2])));
            all = first;
            all.addAll(others);
        }
        return all;
    }

    private static void permutations(List<Integer> head, List<Integer> rest, List<List<Integer>> into) {
        if (rest.isEmpty()) into.add(new ArrayList<>(head));
        for (int i = 0; i < rest.size(); i++) {
            List<Integer> r = new ArrayList<>(rest);
            head.add(r.remove(i));
            permutations(head, r, into);
            head.remove(head.size() - 1);
        }
    }

    private static final List<List<List<Integer>>> ALL_ORDERS = new ArrayList<>();

    static {
        for (int n = 0; n <= 6; n++) {
            List<Integer> all = new ArrayList<>();
            for (int i = 0; i < n; i++) all.add(i);
            List<List<Integer>> orders = new ArrayList<>();
            permutations(new ArrayList<>(), all, orders);
            ALL_ORDERS.add(orders);
        }
    }

    private static List<Integer> bestOrder(List<int[]> jobs, int mode, int aim) {
        List<Integer> best = null;
        long least = 0;
        for (List<Integer> o : ALL_ORDERS.get(jobs.size())) {
            long c = price(jobs, o, mode, aim);
            if (best == null || c < least) {
                best = o;
                least = c;
            }
        }
        return best;
    }

    int plan(int rule) {
        if (!in(rule, 0, 3)) return -2;
        if (s.jobs.isEmpty()) return -3;
        List<Integer> next = order(s.jobs, rule);
        int other = 0;
        for (int j = 0; j < s.jobs.size(); j++) if (next.indexOf(j) != s.plan.indexOf(j)) other++;
        s.plan = next;
        return other;
    }

    int move(int job, int place) {
        if (!isJob(job)) return -1;
        if (!in(place, 0, s.jobs.size() - 1)) return -2;
        int old = s.plan.indexOf(job);
        s.plan.remove(old);
        s.plan.add(place, job);
        return old;
    }

    int swap(int k) {
        if (!in(k, 0, s.jobs.size() - 2)) return -1;
        Collections.swap(s.plan, k, k + 1);
        return s.plan.get(k);
    }

    private long planPrice() {
        return price(s.jobs, s.plan, s.mode, s.aim);
    }

    private List<Integer> exchanged(int k) {
        List<Integer> o = new ArrayList<>(s.plan);
        Collections.swap(o, k, k + 1);
        return o;
    }

    private List<Integer> afterStep(int manner) {
        List<List<Integer>> offers = new ArrayList<>();
        int n = s.plan.size();
        if (manner == 2) {
            for (int k = 0; k < n; k++) {
                for (int l = 0; l < n; l++) {
                    List<Integer> o = new ArrayList<>(s.plan);
                    Integer j = o.remove(k);
                    o.add(l, j);
                    offers.add(o);
                }
            }
        } else {
            for (int k = 0; k + 1 < n; k++) offers.add(exchanged(k));
        }
        List<Integer> chosen = null;
        long least = planPrice();
        for (List<Integer> o : offers) {
            long c = price(s.jobs, o, s.mode, s.aim);
            if (c < least) {
                chosen = o;
                least = c;
                if (manner == 0) return chosen;
            }
        }
        return chosen;
    }

    int step(int manner, int n) {
        if (!in(manner, 0, 2) || !in(n, 0, 100)) return -2;
        if (s.jobs.isEmpty()) return -3;
        for (int i = 0; i < n; i++) {
            List<Integer> next = afterStep(manner);
            if (next == null) return i;
            s.plan = next;
        }
        return n;
    }

    int at(int place) {
        return in(place, 0, s.plan.size() - 1) ? s.plan.get(place) : -1;
    }

    long time(int job, int what) {
        if (!isJob(job) || !in(what, 0, 6)) return NO;
        return times(s.jobs, s.plan, s.mode)[job][what];
    }

    long told(int what) {
        if (!in(what, 0, 12)) return NO;
        if (what == 0) return s.jobs.size();
        if (what == 1) return s.mode;
        if (what == 2) return s.aim;
        if (s.jobs.isEmpty()) return NO;
        long[][] t = times(s.jobs, s.plan, s.mode);
        int last = s.plan.get(s.plan.size() - 1);
        long better = 0;
        long alike = 0;
        for (int k = 0; k + 1 < s.plan.size(); k++) {
            long c = price(s.jobs, exchanged(k), s.mode, s.aim);
            if (c < planPrice()) better++;
            if (c == planPrice()) alike++;
        }
        switch (what) {
            case 3:
                return planPrice();
            case 4:
                return price(s.jobs, s.plan, s.mode, 0);
            case 5: {
                int allA = s.jobs.stream().mapToInt(j -> j[0]).sum();
                int allB = s.jobs.stream().mapToInt(j -> j[2]).sum();
                int mb = s.jobs.stream().mapToInt(j -> j[1] + j[2]).min().getAsInt();
                int am = s.jobs.stream().mapToInt(j -> j[0] + j[1]).min().getAsInt();
                return Math.max(allA + mb, allB + am);
            }
            case 6: {
                // Counted hour by hour: free hours of the second hall ahead of the latest ENDS.
                long free = 0;
                for (long h = 0; h < t[last][5]; h++) {
                    boolean busy = false;
                    for (int j = 0; j < s.jobs.size(); j++) {
                        if (h >= t[j][4] && h < t[j][5] + (j == last ? 0 : s.jobs.get(j)[4])) busy = true;
                    }
                    if (!busy) free++;
                }
                return free;
            }
            case 7: {
                int turn = -1;
                for (int j : s.plan) if (t[j][4] == t[j][3]) turn = j;
                return turn;
            }
            case 8:
                return better;
            case 9:
                return alike;
            case 10:
                return better == 0 ? 1 : 0;
            case 11: {
                int m = s.jobs.stream().mapToInt(j -> j[1]).max().getAsInt();
                return s.jobs.stream().allMatch(j -> m <= j[0]) || s.jobs.stream().allMatch(j -> m <= j[2]) ? 1 : 0;
            }
            default:
                return s.jobs.stream().filter(j -> j[0] <= j[2]).count();
        }
    }

    long would(int k) {
        return in(k, 0, s.plan.size() - 2) ? price(s.jobs, exchanged(k), s.mode, s.aim) : NO;
    }

    int ruled(int rule, int place) {
        if (!in(rule, 0, 3) || !in(place, 0, s.jobs.size() - 1)) return -1;
        return order(s.jobs, rule).get(place);
    }

    long cost(int rule, int mode, int aim) {
        if (!in(rule, 0, 3) || !in(mode, 0, 2) || !in(aim, 0, 2) || s.jobs.isEmpty()) return NO;
        return price(s.jobs, order(s.jobs, rule), mode, aim);
    }

    long least(int mode, int aim) {
        if (!in(mode, 0, 2) || !in(aim, 0, 2) || s.jobs.isEmpty()) return NO;
        return price(s.jobs, bestOrder(s.jobs, mode, aim), mode, aim);
    }

    int best(int mode, int aim, int place) {
        if (!in(mode, 0, 2) || !in(aim, 0, 2)) return -2;
        if (!in(place, 0, s.jobs.size() - 1)) return -1;
        return bestOrder(s.jobs, mode, aim).get(place);
    }

    int slack(int job) {
        if (!isJob(job)) return -1;
        for (int r = 30; r > 0; r--) {
            boolean none = true;
            for (int h = 1; h <= r; h++) {
                State t = s.copy();
                t.jobs.get(job)[0] += h;
                if (!order(t.jobs, 1).equals(order(s.jobs, 1))) none = false;
            }
            if (none) return r;
        }
        return 0;
    }

    private int put(List<int[]> rows, int most, int a, int b) {
        if (rows.size() == most) return -4;
        rows.add(new int[] {a, b});
        return rows.size();
    }

    int see(int job, int place) {
        if (job == -1) {
            s.seen.clear();
            return 0;
        }
        if (!isJob(job)) return -1;
        if (!in(place, 0, 5)) return -2;
        return put(s.seen, 5, job, place);
    }

    int fits(int job, int what) {
        if (!isJob(job) || !in(what, 0, 1)) return -1;
        List<Integer> hours = new ArrayList<>();
        for (int h = 0; h <= 30; h++) {
            State t = s.copy();
            t.jobs.get(job)[0] = h;
            List<Integer> o = order(t.jobs, 1);
            if (s.seen.stream().allMatch(r -> o.indexOf(r[0]) == r[1])) hours.add(h);
        }
        if (what == 0) return hours.size();
        return hours.isEmpty() ? -5 : hours.get(0);
    }

    private static long lowest(long above, long below, int part) {
        for (long d = below; d > 1; d--) {
            if (above % d == 0 && below % d == 0) return (part == 0 ? above : below) / d;
        }
        return part == 0 ? above : below;
    }

    long odds(int job, int part) {
        if (!isJob(job) || !in(part, 0, 1)) return NO;
        int first = 0;
        for (int h = 0; h <= 9; h++) {
            State t = s.copy();
            t.jobs.get(job)[0] = h;
            if (bestOrder(t.jobs, s.mode, s.aim).get(0) == job) first++;
        }
        return lowest(first, 10, part);
    }

    long mean(int part) {
        if (!in(part, 0, 1) || s.jobs.isEmpty()) return NO;
        return lowest(price(s.jobs, s.plan, s.mode, 1), s.jobs.size(), part);
    }

    int event(int what, int n) {
        if (what == -1) {
            s.events.clear();
            return 0;
        }
        if (!in(what, 0, 3)) return -1;
        if (what != 2 && !isJob(n)) return -1;
        if (what == 2 && !in(n, 0, 2)) return -2;
        return put(s.events, 8, what, n);
    }

    long after(int what) {
        if (!in(what, 0, 1) || s.jobs.isEmpty()) return NO;
        State t = s.copy();
        for (int[] e : s.events) {
            if (e[0] == 0) t.jobs.get(e[1])[0] = Math.min(30, t.jobs.get(e[1])[0] + 1);
            if (e[0] == 1) t.jobs.get(e[1])[2] = Math.min(30, t.jobs.get(e[1])[2] + 1);
            if (e[0] == 2) t.mode = e[1];
            if (e[0] == 3) t.jobs.get(e[1])[1] = 0;
        }
        return price(t.jobs, what == 0 ? t.plan : bestOrder(t.jobs, t.mode, t.aim), t.mode, t.aim);
    }

    int book(int job, int place) {
        if (job == -1) {
            s.book.clear();
            return 0;
        }
        if (!isJob(job)) return -1;
        if (!in(place, 0, 5)) return -2;
        return put(s.book, 8, job, place);
    }

    int looked() {
        for (int i = 0; i < s.book.size(); i++) {
            if (s.plan.indexOf(s.book.get(i)[0]) != s.book.get(i)[1]) return i;
        }
        return -5;
    }

    int judge(int tape, int i) {
        if (!in(tape, 0, 5)) return -1;
        Object row = tapes[tape];
        if (row != null && !(row instanceof short[])) return -12;
        if (s.jobs.isEmpty()) return -5;
        if (row == null || i < 0) return 100;
        short[] ends = (short[]) row;
        long[][] t = times(s.jobs, s.plan, s.mode);
        for (int p = 0; p < s.plan.size(); p++) {
            if ((long) i + p >= ends.length) return 100 + p;
            if (ends[i + p] != t[s.plan.get(p)][5]) return p;
        }
        return -5;
    }

    int image() {
        picture = s.copy();
        return s.jobs.size();
    }

    int undo() {
        if (picture == null) return -3;
        s = picture.copy();
        return s.jobs.size();
    }

    int count(int what) {
        switch (what) {
            case 0:
                return s.jobs.size();
            case 1:
                return s.seen.size();
            case 2:
                return s.events.size();
            case 3:
                return s.book.size();
            case 4:
                return text.length();
            default:
                return -2;
        }
    }

    int tape(int tape, int sort, int n) {
        if (!in(tape, 0, 5)) return -1;
        if (!in(sort, -1, 4)) return -2;
        if (sort == -1) {
            tapes[tape] = null;
            return 1;
        }
        if (n > 60) return -2;
        if (n < 0) return -14;
        tapes[tape] = sort == 0 ? new byte[n] : sort == 1 ? new short[n] : sort == 2 ? new int[n]
                : sort == 3 ? new long[n] : new boolean[n];
        return 1;
    }

    int item(int tape, int i, long v) {
        if (!in(tape, 0, 5)) return -1;
        if (tapes[tape] == null) return -11;
        if (!in(i, 0, java.lang.reflect.Array.getLength(tapes[tape]) - 1)) return -13;
        if (tapes[tape] instanceof byte[] row) row[i] = (byte) v;
        if (tapes[tape] instanceof short[] row) row[i] = (short) v;
        if (tapes[tape] instanceof int[] row) row[i] = (int) v;
        if (tapes[tape] instanceof long[] row) row[i] = v;
        if (tapes[tape] instanceof boolean[] row) row[i] = v != 0;
        return 1;
    }

    long peek(int tape, int i) {
        if (!in(tape, 0, 5) || tapes[tape] == null) return NO;
        if (!in(i, 0, java.lang.reflect.Array.getLength(tapes[tape]) - 1)) return NO;
        if (tapes[tape] instanceof boolean[] row) return row[i] ? 1 : 0;
        return java.lang.reflect.Array.getLong(tapes[tape], i);
    }

    int shift(int tape, int i, int other, int j, int n) {
        if (!in(tape, 0, 5) || !in(other, 0, 5)) return -1;
        if (tapes[tape] == null || tapes[other] == null) return -11;
        if (tapes[tape].getClass() != tapes[other].getClass()) return -12;
        long from = java.lang.reflect.Array.getLength(tapes[tape]);
        long to = java.lang.reflect.Array.getLength(tapes[other]);
        if (n < 0 || i < 0 || j < 0 || (long) i + n > from || (long) j + n > to) return -13;
        System.arraycopy(tapes[tape], i, tapes[other], j, n);
        return n;
    }
}
