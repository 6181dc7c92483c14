import java.lang.reflect.InvocationTargetException;
import java.lang.reflect.Method;
import java.util.ArrayList;
import java.util.HashMap;
import java.util.List;
import java.util.Map;
import java.util.Random;

/**
 * Runs of up to 512 calls by draws, each call asked of a second reading of the whole document (WholeModel), too: its
 * answer, its STATUS and the FRACTION are the same. How many runs can be told as an argument.
 */
public final class WholeModelTest {
    private static final Check CHECK = new Check();
    private static final int RUNS = 1500;
    private static final int CALLS = 512;
    private static final int SHOWN = 20;

    // What each argument is, a letter each: see number().
    private static final String[] CALLED = {"status", "top", "bottom", "tray tsz", "write tiv", "read ti", "pour titiz", "feed vvvvv",
        "street N", "years N", "fault 2", "told k", "house hk", "wall w", "person pk", "quarrel qk", "near pp", "neighbours p",
        "say pp", "sorry q", "night n", "rain b", "peace wb", "move ph", "change pcu", "rule f", "survey w", "soothe p", "loud p",
        "hears pp", "heardBy p", "shoutsBy pp", "gainBy pp", "bestTo p", "dangers p", "quiet w", "bait pp", "leastVoice pp",
        "angerIn pN", "calmIn", "hire p", "hireSet p", "game ppg", "moveOf ppg", "widest", "loser", "loudest", "share h", "began w",
        "quarrelsAt w", "ways tC", "fewest tC", "blame tC", "copyWalls t", "wet CC", "live d", "lived g", "mean hdm", "mark", "undo"};
    private static final Map<String, Method> METHODS = new HashMap<>();

    private static Random draws;
    private static FootQuarrel real;
    private static WholeModel model;
    private static List<String> made;
    private static int left;
    private static int wrongRuns;

    public static void main(String[] args) {
        for (Method method : FootQuarrel.class.getMethods()) {
            METHODS.put(method.getName(), method);
        }
        int runs = args.length > 0 ? Integer.parseInt(args[0]) : RUNS;
        for (int run = 0; run < runs && wrongRuns < SHOWN; run++) {
            draws = new Random(run);
            run(run);
        }
        CHECK.finish();
    }

    private static int pick(int least, int most) {
        return least + draws.nextInt(most - least + 1);
    }

    private static boolean seldom(int times) {
        return draws.nextInt(times) == 0;
    }

    private static void run(int run) {
        real = new FootQuarrel();
        model = new WholeModel();
        made = new ArrayList<>();
        left = CALLS;
        boolean good = portrait();
        // Some runs do mostly one kind of thing, so that much of it comes together.
        int bent = draws.nextInt(5);
        while (good && left > 0) {
            good = step(bent);
        }
        if (!good) {
            wrongRuns++;
            System.out.println("in run " + run + ", its latest calls:");
            made.subList(Math.max(0, made.size() - 40), made.size()).forEach(System.out::println);
        }
    }

    /** A bent of 1 is for YEARS, 2 for things said, 3 for places, 4 for many NIGHTS, 0 for none. */
    private static boolean step(int bent) {
        int kind = draws.nextInt(100);
        if (model.houses() == 0 && kind < 50 || kind < 1 && seldom(4)) {
            return text("street", RandomTexts.street(draws));
        }
        if (kind < (bent == 1 ? 8 : 2)) {
            return text("years", RandomTexts.years(draws));
        }
        if (kind < (bent == 1 ? 30 : 4)) {
            return call("live", number('d')) && call("lived", 0) && call("lived", pick(1, 4));
        }
        if (kind < (bent == 2 ? 70 : 30)) {
            return say();
        }
        if (kind < (bent == 3 ? 50 : 32)) {
            return walk();
        }
        if (kind < (bent == 4 ? 60 : 33)) {
            return call("night", bent == 4 ? 99 : pick(1, 2));
        }
        if (kind < 64) {
            return seldom(3) ? call("mark") : seldom(2) ? call("undo") : seldom(4) ? portrait() : call("quarrel", 0, pick(0, 6));
        }
        return any(CALLED[draws.nextInt(CALLED.length)]);
    }

    private static boolean say() {
        long one = number('p');
        return call("say", one, seldom(10) ? number('p') : neighbourOf(one));
    }

    private static long neighbourOf(long person) {
        int[] near = person < 0 || person >= model.people() ? new int[0] : model.neighboursOf((int) person);
        return near.length == 0 ? number('p') : near[draws.nextInt(near.length)];
    }

    private static boolean any(String form) {
        int blank = form.indexOf(' ');
        String name = blank < 0 ? form : form.substring(0, blank);
        String kinds = blank < 0 ? "" : form.substring(blank + 1);
        int many = METHODS.get(name).getParameterCount();
        long[] a = new long[many];
        for (int i = 0; i < many; i++) {
            a[i] = number(kinds.charAt(i));
        }
        if (kinds.startsWith("pp") && seldom(2)) {
            a[1] = neighbourOf(a[0]);
        }
        return call(name, a);
    }

    private static long number(char kind) {
        if (kind == 'b') {
            return draws.nextInt(2);
        }
        if (kind == 'v') {
            return value();
        }
        if (seldom(40)) {
            return new int[] {Integer.MIN_VALUE, Integer.MIN_VALUE + 1, -2, Integer.MAX_VALUE - 1, Integer.MAX_VALUE}[draws.nextInt(5)];
        }
        int off = seldom(12) ? 1 : 0;
        return switch (kind) {
            case 't', 's' -> pick(-off, 3 + off);
            case 'z' -> seldom(4) ? pick(-off, 60 + off) : pick(0, 16);
            case 'i' -> seldom(20) ? pick(-1, 61) : pick(-off, 7);
            case 'N' -> pick(-off, 20) * (seldom(3) ? 5 : 1) + off;
            case 'k' -> pick(-off, 6 + 6 * off);
            case 'h' -> upTo(off, model.houses() - 1);
            case 'w' -> upTo(off, model.houses() - 2);
            case 'p' -> upTo(off, model.people() - 1);
            case 'q' -> seldom(2) ? 0 : upTo(off, model.quarrels() - 1);
            case 'n' -> seldom(8) ? 99 + off : pick(1 - off, 3);
            case 'c', 'g' -> pick(1 - off, 4 + off);
            case 'u' -> seldom(3) ? pick(-1, 31) : pick(0, 9);
            case 'f' -> pick(1 - off, 9 + off);
            case 'C' -> pick(-off, 12 + off);
            case 'd' -> seldom(8) ? 9999 + off : pick(-off, 9999);
            case 'm' -> pick(1 - off, 20 + off);
            default -> pick(-off, 1 + off);
        };
    }

    private static int upTo(int off, int most) {
        return pick(-off, Math.max(0, most + off));
    }

    private static long value() {
        return switch (draws.nextInt(5)) {
            case 0 -> draws.nextLong();
            case 1 -> pick(-70000, 70000);
            case 2 -> Long.MAX_VALUE - pick(0, 30);
            default -> pick(0, 130);
        };
    }

    private static boolean text(String name, String text) {
        boolean good = true;
        for (int at = 0; at < text.length() && good; at += 20) {
            long[] a = new long[5];
            for (int i = 0; i < 20; i++) {
                a[i / 4] |= (long) (at + i < text.length() ? text.charAt(at + i) : 32) << 24 - i % 4 * 8;
            }
            for (int i = 0; i < 5; i++) {
                a[i] = (int) a[i];
            }
            good = call("feed", a);
        }
        return good && call(name, text.length()) && call("fault", 0) && call("fault", 1);
    }

    /** A row of places as a WALL may take them, and what is asked of it. */
    private static boolean walk() {
        int tray = pick(0, 3);
        int many = pick(1, 12);
        boolean good = call("tray", tray, pick(0, 3), many);
        long place = seldom(4) ? Long.MAX_VALUE - 50 : pick(0, 60);
        for (int i = 0; i < many && good; i++) {
            good = call("write", tray, i, place);
            place += (long) pick(-2, 2) * model.foot() * (seldom(6) ? 2 : 1) + (seldom(30) ? 1 : 0);
        }
        return good && call("ways", tray, many) && call("fewest", tray, many) && call("blame", tray, many);
    }

    /** All that is told of an object, as far as there are calls for it. */
    private static boolean portrait() {
        boolean good = true;
        for (int what = 0; what <= 12; what++) {
            good &= call("told", what);
        }
        for (int i = 0; i < model.houses(); i++) {
            good &= call("house", i, 0) & call("house", i, 2) & call("house", i, 3);
        }
        for (int i = 0; i < model.people(); i++) {
            good &= call("person", i, 5) & call("person", i, 6) & call("person", i, 0);
        }
        for (int what = 0; what <= 6; what++) {
            good &= call("quarrel", number('q'), what);
        }
        return good;
    }

    /** Asks both: whether they say the same. */
    private static boolean call(String name, long... a) {
        if (left == 0) {
            return true;
        }
        left--;
        StringBuilder call = new StringBuilder(name).append("(");
        for (int i = 0; i < a.length; i++) {
            call.append(i > 0 ? ", " : "").append(a[i]);
        }
        call.append(")");
        made.add(call.toString());
        long got = ofReal(name, a);
        long want = model.call(name, a);
        boolean same = got == want && real.status() == model.call("status") && real.top() == model.call("top")
                && real.bottom() == model.call("bottom");
        if (!same) {
            CHECK.due(call.toString(), got, want);
            CHECK.due("status()", real.status(), model.call("status"));
            CHECK.due("top()", real.top(), model.call("top"));
            CHECK.due("bottom()", real.bottom(), model.call("bottom"));
        }
        return same;
    }

    private static long ofReal(String name, long[] a) {
        Method method = METHODS.get(name);
        Object[] arguments = new Object[a.length];
        for (int i = 0; i < a.length; i++) {
            Class<?> type = method.getParameterTypes()[i];
            arguments[i] = type == boolean.class ? (Object) (a[i] == 1) : type == int.class ? (Object) (int) a[i] : (Object) a[i];
        }
        try {
            Object answer = method.invoke(real, arguments);
            return answer instanceof Boolean is ? (is ? 1 : 0) : ((Number) answer).longValue();
        } catch (InvocationTargetException | IllegalAccessException e) {
            throw new IllegalStateException(made.toString(), e);
        }
    }
}
