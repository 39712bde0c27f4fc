import java.lang.reflect.InvocationTargetException;
import java.lang.reflect.Method;
import java.lang.reflect.Modifier;
import java.util.ArrayList;
import java.util.Arrays;
import java.util.HashMap;
import java.util.List;
import java.util.Map;

/**
 * Sentences of the document, each held by a run of calls on a new object. A line of a run:
 *
 *   job 3 2 1            a call, whatever it answers
 *   job 3 2 1 : 0        a call and the answer that is due
 *   time 0 0 : 0 3 3     with several answers, the last argument counts on from what stands there
 *   job 31 0 0 ! BAD     the answer that is due, and nothing has changed by it
 *   text m1;a2           each sign is fed
 *   read m1;a2 : 2       each sign is fed, then the text is read
 *
 * or the name of a run that goes ahead (SOME, FILLED).
 */
abstract class Sentences {
    static final String SOME = "some", FILLED = "filled";

    private static final Map<String, Long> WORDS = Map.of("NONE", -1L, "BAD", -2L, "STATE", -3L, "FULL", -4L,
        "NOTHING", -11L, "CAST", -12L, "PLACE", -13L, "SIZE", -14L, "NO", Long.MIN_VALUE);
    private static final Map<String, Long> NUMBERS = Map.of("LEAST", (long) Integer.MIN_VALUE, "MOST",
        (long) Integer.MAX_VALUE);
    private static final Map<String, Method> FACE = new HashMap<>();

    static {
        for (Method m : PressHalls.class.getDeclaredMethods()) {
            if (Modifier.isPublic(m.getModifiers())) FACE.put(m.getName(), m);
        }
    }

    /** Something of each kind, and other things in THE IMAGE, so that a change of either shows. */
    private static final String[] SOME_LINES = {
        "job 4 2 6", "job 3 1 9", "job 8 0 2", "renew 0 3 1", "renew 1 4 2", "renew 2 5 20", "set 0 1", "set 1 1",
        "see 1 0", "event 0 1", "book 0 0", "book 2 2", "tape 0 0 3", "item 0 1 -7", "tape 1 1 4", "item 1 0 12",
        "tape 2 2 2", "item 2 1 9", "tape 3 3 2", "tape 4 4 2", "item 4 0 1", "image", "job 2 5 3", "move 3 1",
        "set 0 2", "set 1 2", "see 3 1", "event 2 1", "event 3 0", "book -1 0", "book 1 2",
        "text m1;a0;d07;c321;j1,2,3"};

    /** As much of all as there can be: 6 JOBS, 5, 8 and 8 rows, 100 bytes that are a set-up, rows of 60 items. */
    private static final String[] FILLED_LINES = {
        "job 5 0 5", "job 4 1 6", "job 9 2 3", "job 2 3 2", "job 7 4 8", "job 1 5 0", "plan 1",
        "see 0 2", "see 1 1", "see 2 4", "see 3 0", "see 0 2", "event 0 0", "event 1 1", "event 3 2", "event 2 2",
        "event 0 3", "event 1 4", "event 3 5", "event 0 0", "book 0 0", "book 1 1", "book 2 2", "book 3 3", "book 4 4",
        "book 5 5", "book 0 1", "book 1 0", "tape 0 0 60", "tape 1 1 60", "tape 2 2 60", "tape 3 3 60", "tape 4 4 60",
        "tape 5 3 60", "item 5 59 8", "image", "plan 2", "renew 5 4 9", "set 0 1", "set 1 1",
        "text c012;c112;d07;j1,1,1;j11,11,11;j11,11,11;j11,11,11;j11,11,11;j11,11,11;j11,11,11;j11,11,11;j11,11,11"};

    /** Every sentence held so far, as it was told. */
    static final List<String> QUOTED = new ArrayList<>();
    /** For a look at the sentences alone: their runs are left then. */
    static boolean quotesOnly = false;

    private static String sentence = "";
    private static int answers = 0;
    private static int wrong = 0;

    /** An object together with how often it was called: beyond 512 the document promises nothing. */
    private static final class Called {
        final PressHalls x = new PressHalls();
        int calls = 0;

        long call(String name, long... args) {
            Method m = FACE.get(name);
            if (m == null || m.getParameterCount() != args.length) {
                throw new IllegalStateException("no such call: " + name + Arrays.toString(args));
            }
            if (++calls > 512) throw new IllegalStateException("too many calls behind: " + sentence);
            Object[] boxed = new Object[args.length];
            for (int i = 0; i < args.length; i++) {
                boxed[i] = m.getParameterTypes()[i] == long.class ? (Object) args[i] : (Object) (int) args[i];
            }
            try {
                return ((Number) m.invoke(x, boxed)).longValue();
            } catch (IllegalAccessException | InvocationTargetException e) {
                throw new IllegalStateException(name + Arrays.toString(args), e);
            }
        }

        long feedAll(String signs) {
            long last = 0;
            for (char sign : signs.toCharArray()) last = call("feed", sign);
            return last;
        }
    }

    /** A line of a run, taken apart. */
    private static final class Line {
        final String told;
        final String name;
        final String signs;
        final long[] args;
        final long[] due;
        final boolean keeps;

        Line(String line) {
            told = line;
            int mark = Math.max(line.lastIndexOf(" : "), line.lastIndexOf(" ! "));
            keeps = mark >= 0 && line.charAt(mark + 1) == '!';
            due = mark < 0 ? new long[0] : numbers(line.substring(mark + 3));
            String head = mark < 0 ? line : line.substring(0, mark);
            int blank = head.indexOf(' ');
            name = blank < 0 ? head : head.substring(0, blank);
            boolean fed = name.equals("text") || name.equals("read");
            signs = fed && blank >= 0 ? head.substring(blank + 1) : "";
            args = fed || blank < 0 ? new long[0] : numbers(head.substring(blank + 1));
        }

        private static long[] numbers(String list) {
            String[] parts = list.trim().split(" +");
            long[] n = new long[parts.length];
            for (int i = 0; i < n.length; i++) {
                Long known = WORDS.getOrDefault(parts[i], NUMBERS.get(parts[i]));
                n[i] = known != null ? known : Long.parseLong(parts[i]);
            }
            return n;
        }

        int times() {
            return Math.max(1, due.length);
        }

        long callOn(Called object, int round) {
            long fed = object.feedAll(signs);
            if (name.equals("text")) return fed;
            if (name.equals("read")) return object.call("read");
            long[] now = args.clone();
            if (round > 0) now[now.length - 1] += round;
            return object.call(name, now);
        }
    }

    private static List<Line> linesOf(String... told) {
        List<Line> lines = new ArrayList<>();
        for (String line : told) {
            if (line.equals(SOME)) {
                lines.addAll(linesOf(SOME_LINES));
            } else if (line.equals(FILLED)) {
                lines.addAll(linesOf(FILLED_LINES));
            } else {
                lines.add(new Line(line));
            }
        }
        return lines;
    }

    /** The document says these words, so this run of calls goes so. */
    static void says(String words, String... run) {
        sentence = words;
        QUOTED.add(words);
        if (quotesOnly) return;
        List<Line> lines = linesOf(run);
        Called object = new Called();
        for (int at = 0; at < lines.size(); at++) {
            Line line = lines.get(at);
            for (int round = 0; round < line.times(); round++) {
                long got = line.callOn(object, round);
                if (line.due.length > 0) hold(got == line.due[round], line.told + " answered " + got);
                if (line.keeps) holdKept(lines.subList(0, at), line, round);
            }
        }
    }

    /** Of two objects with the same past one is called so; whatever is asked of both then must be alike. */
    private static void holdKept(List<Line> past, Line line, int round) {
        Called called = behind(past);
        Called other = behind(past);
        line.callOn(called, round);
        long[] one = all(called);
        long[] two = all(other);
        int first = 0;
        while (first < one.length && one[first] == two[first]) first++;
        hold(first == one.length, line.told + ", answer " + round + ", changed something (" + first + ")");
    }

    private static Called behind(List<Line> past) {
        Called object = new Called();
        for (Line line : past) {
            for (int round = 0; round < line.times() && !line.keeps; round++) line.callOn(object, round);
        }
        return object;
    }

    private static void hold(boolean held, String what) {
        answers++;
        if (!held) {
            wrong++;
            System.out.println("\"" + sentence + "\": " + what);
        }
    }

    /** All that shows of an object: what is, the TAPES, what THE TEXT makes of it, THE IMAGE. */
    private static long[] all(Called object) {
        List<Long> found = new ArrayList<>();
        askState(object, found);
        askTapes(object, found);
        found.add(object.call("read"));
        askState(object, found);
        found.add(object.call("undo"));
        askState(object, found);
        return found.stream().mapToLong(Long::longValue).toArray();
    }

    private static void askState(Called object, List<Long> found) {
        for (int what = 0; what < 5; what++) found.add(object.call("count", what));
        for (int job = 0; job < 6; job++) {
            for (int what = 0; what < 7; what++) found.add(object.call("of", job, what));
            found.add(object.call("fits", job, 0));
            found.add(object.call("fits", job, 1));
        }
        for (int what = 1; what < 4; what++) found.add(object.call("told", what));
        found.add(object.call("after", 0));
        found.add(object.call("after", 1));
        found.add(object.call("looked"));
    }

    /** What an item makes of these bits tells its sort. */
    private static void askTapes(Called object, List<Long> found) {
        for (int tape = 0; tape < 6; tape++) {
            for (int i : new int[] {0, 1, 2, 3, 59}) found.add(object.call("peek", tape, i));
            found.add(object.call("item", tape, 0, 0x100018182L));
            found.add(object.call("peek", tape, 0));
        }
    }

    static void end(String test) {
        System.out.println(test + ": " + QUOTED.size() + " runs, " + answers + " answers, " + wrong + " wrong");
        if (wrong != 0) System.exit(1);
    }
}
