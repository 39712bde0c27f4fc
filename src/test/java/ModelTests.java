import java.lang.reflect.Method;
import java.util.ArrayList;
import java.util.Arrays;
import java.util.Comparator;
import java.util.HashMap;
import java.util.List;
import java.util.Map;
import java.util.Random;

/** Long runs of calls on PressHalls and on the Oracle; every answer must be the same. Argument: how many runs. */
public final class ModelTests {
    private static final int CALLS = 512;
    private static final int[] ODD = {Integer.MIN_VALUE, Integer.MAX_VALUE, -2, 60, 61, 99, 100, 101, 128, 30, 31};

    private final Random random;
    private final PressHalls program = new PressHalls();
    private final Oracle oracle = new Oracle();
    private final List<String> story = new ArrayList<>();
    private final int greatestHours;
    private boolean wrong = false;

    private ModelTests(long seed) {
        random = new Random(seed);
        // Small hours make many orders alike in cost, so that what goes first of several is looked at.
        greatestHours = seed % 3 == 0 ? 3 : seed % 3 == 1 ? 10 : 30;
    }

    private static final Map<Method, Method> TWINS = new HashMap<>();
    private static final List<Method> FACE = new ArrayList<>();

    private static void findTwins() throws Exception {
        for (Method m : PressHalls.class.getDeclaredMethods()) {
            if (!java.lang.reflect.Modifier.isPublic(m.getModifiers())) continue;
            TWINS.put(m, Oracle.class.getDeclaredMethod(m.getName(), m.getParameterTypes()));
            FACE.add(m);
        }
        FACE.sort(Comparator.comparing(Method::getName));
    }

    private void call(String name, long... args) throws Exception {
        for (Method m : FACE) {
            if (m.getName().equals(name)) {
                Object[] boxed = new Object[args.length];
                for (int i = 0; i < args.length; i++) {
                    boxed[i] = m.getParameterTypes()[i] == long.class ? (Object) args[i] : (Object) (int) args[i];
                }
                long got = ((Number) m.invoke(program, boxed)).longValue();
                long want = ((Number) TWINS.get(m).invoke(oracle, boxed)).longValue();
                story.add(name + Arrays.toString(args) + " = " + got);
                if (got != want && !wrong) {
                    wrong = true;
                    System.out.println("due is " + want + " at the end of:");
                    story.forEach(System.out::println);
                }
            }
        }
    }

    private int any(int low, int high) {
        if (random.nextInt(40) == 0) return ODD[random.nextInt(ODD.length)];
        if (random.nextInt(25) == 0) return random.nextBoolean() ? low - 1 : high + 1;
        return low + random.nextInt(high - low + 1);
    }

    private long value() {
        int shape = random.nextInt(4);
        if (shape == 0) return random.nextLong();
        if (shape == 1) return random.nextInt(3) - 1;
        return random.nextInt(200);
    }

    private String clause() {
        switch (random.nextInt(5)) {
            case 0:
                return "j" + random.nextInt(34) + "," + random.nextInt(34) + "," + random.nextInt(greatestHours + 1);
            case 1:
                return "c" + random.nextInt(7) + random.nextInt(10) + random.nextInt(10);
            case 2:
                return "d" + random.nextInt(7) + random.nextInt(100);
            case 3:
                return "m" + random.nextInt(4);
            default:
                return "a" + random.nextInt(4);
        }
    }

    private String setup() {
        int clauses = random.nextInt(8) == 0 ? 1 + random.nextInt(20) : 1 + random.nextInt(5);
        StringBuilder t = new StringBuilder(clause());
        for (int i = 1; i < clauses; i++) t.append(';').append(clause());
        String signs = "jcdma0123456789;,  x\0";
        if (random.nextInt(3) == 0) {
            int at = random.nextInt(t.length());
            char sign = signs.charAt(random.nextInt(signs.length()));
            int how = random.nextInt(4);
            if (how == 0) t.setCharAt(at, sign);
            if (how == 1) t.insert(at, sign);
            if (how == 2) t.deleteCharAt(at);
            if (how == 3) t.setLength(at);
        }
        return t.toString();
    }

    private void readSetup() throws Exception {
        for (char sign : setup().toCharArray()) call("feed", sign);
        if (random.nextInt(4) != 0) call("count", 4);
        call("read");
    }

    /** Judging is of use only with a row of ENDS as they are, but for a mistake at times. */
    private void judgeEnds() throws Exception {
        int tape = random.nextInt(6);
        int from = random.nextInt(3);
        int jobs = program.count(0);
        int length = Math.max(0, from + jobs - (random.nextInt(3) == 0 ? random.nextInt(4) : 0));
        call("tape", tape, 1, length);
        for (int p = 0; p < jobs; p++) {
            long ends = program.time(program.at(p), 5);
            call("item", tape, from + p, random.nextInt(20) == 0 ? ends + 1 : ends);
        }
        call("judge", tape, from);
        call("judge", tape, any(-1, 8));
    }

    private void seeOrBookAsItIs() throws Exception {
        int place = any(0, 5);
        if (random.nextBoolean()) {
            call("see", Math.max(0, program.ruled(1, place)), place);
            call("fits", any(0, 5), 0);
            call("fits", any(0, 5), 1);
        } else {
            call("book", Math.max(0, program.at(place)), place);
            call("looked");
        }
    }

    private void callAny() throws Exception {
        switch (random.nextInt(40)) {
            case 0: call("job", any(0, greatestHours), any(0, greatestHours), any(0, greatestHours)); break;
            case 1: {
                int what = any(0, 5);
                call("renew", any(0, 5), what, any(0, what <= 2 ? greatestHours : what == 5 ? 99 : 9));
                break;
            }
            case 2: call("of", any(0, 5), any(0, 6)); break;
            case 3: call("set", any(0, 1), any(0, 2)); break;
            case 4: call("feed", any(0, 127)); break;
            case 5: readSetup(); break;
            case 6: call("plan", any(0, 3)); break;
            case 7: call("move", any(0, 5), any(0, 5)); break;
            case 8: call("swap", any(0, 4)); break;
            case 9: call("step", any(0, 2), random.nextInt(3) == 0 ? any(0, 100) : any(0, 2)); break;
            case 10: call("at", any(0, 5)); break;
            case 11: call("time", any(0, 5), any(0, 6)); break;
            case 12: call("told", any(0, 12)); break;
            case 13: call("would", any(0, 4)); break;
            case 14: call("ruled", any(0, 3), any(0, 5)); break;
            case 15: call("cost", any(0, 3), any(0, 2), any(0, 2)); break;
            case 16: call("least", any(0, 2), any(0, 2)); break;
            case 17: call("best", any(0, 2), any(0, 2), any(0, 5)); break;
            case 18: call("slack", any(0, 5)); break;
            case 19: call("see", any(-1, 5), any(0, 5)); break;
            case 20: call("fits", any(0, 5), any(0, 1)); break;
            case 21: call("odds", any(0, 5), any(0, 1)); break;
            case 22: call("mean", any(0, 1)); break;
            case 23: call("event", any(0, 3), any(0, 5)); break;
            case 24: call("after", any(0, 1)); break;
            case 25: call("book", any(0, 5), any(0, 5)); break;
            case 26: call("looked"); break;
            case 27: call("judge", any(0, 5), any(0, 5)); break;
            case 28: if (random.nextInt(6) == 0) call("image"); break;
            case 29: if (random.nextInt(6) == 0) call("undo"); break;
            case 30: call("count", any(0, 4)); break;
            case 31: call("tape", any(0, 5), any(-1, 4), random.nextBoolean() ? any(0, 60) : any(0, 6)); break;
            case 32: call("item", any(0, 5), any(0, 6), value()); break;
            case 33: call("peek", any(0, 5), any(0, 6)); break;
            case 34: call("shift", any(0, 5), any(0, 6), any(0, 5), any(0, 6), any(0, 5)); break;
            case 35: judgeEnds(); break;
            case 36: seeOrBookAsItIs(); break;
            case 37: call("book", -1, any(0, 5)); break;
            case 38: call("event", -1, any(0, 5)); break;
            default: call("told", any(3, 12)); break;
        }
    }

    /** All that can be asked, so that no change goes unseen to the end of a run. */
    private void askAll() throws Exception {
        for (int job = 0; job < 6; job++) {
            for (int what = 0; what < 7; what++) {
                call("of", job, what);
                call("time", job, what);
            }
            call("slack", job);
            call("odds", job, 0);
        }
        for (int what = 0; what < 13; what++) call("told", what);
        for (int what = 0; what < 5; what++) call("count", what);
        call("fits", 0, 0);
        call("after", 0);
        call("after", 1);
        call("looked");
        for (int tape = 0; tape < 6; tape++) {
            for (int i = 0; i < 4; i++) call("peek", tape, i);
        }
    }

    private boolean run() throws Exception {
        while (story.size() < CALLS - 150 && !wrong) callAny();
        askAll();
        return !wrong;
    }

    public static void main(String[] args) throws Exception {
        int runs = args.length > 0 ? Integer.parseInt(args[0]) : 300;
        findTwins();
        for (int seed = 0; seed < runs; seed++) {
            if (!new ModelTests(seed).run()) {
                System.out.println("in the run of seed " + seed);
                System.exit(1);
            }
        }
        System.out.println("ModelTests: " + runs + " runs as the document asks");
    }
}
