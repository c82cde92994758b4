import java.lang.reflect.InvocationTargetException;
import java.lang.reflect.Method;
import java.util.ArrayList;
import java.util.Arrays;
import java.util.Comparator;
import java.util.List;
import java.util.Random;

/** Random runs of calls on the class and on the naive model: every answer and every exception must be the same. */
public final class RandomRunsTest {
    private static final int RUNS = 400;
    private static final int CALLS = 400;
    /** Some runs begin when the last time is near, and what ends beyond it matters. */
    private static final int LATE_DAYS = 13;
    private static final int TEXTS = 20000;

    private static final String[] CHANGES = {
        "call", "call", "call", "handOn", "handOn", "handOn", "giveBack", "pass", "pass", "pass", "swapPlaces", "excuse",
        "setService", "setTrust", "undo", "save", "restore"};

    private final Random random;
    private BrigadePagers x;
    private NaiveBrigade y;
    private final List<String> told = new ArrayList<>();

    private RandomRunsTest(long seed) {
        random = new Random(seed);
    }

    /** The seeds are fixed, so each run is the same one every time; other ones can be given by -Dseed. */
    public static void main(String[] args) {
        long seed = Long.getLong("seed", 0);
        long runs = Long.getLong("runs", RUNS);
        Method[] methods = BrigadePagers.class.getDeclaredMethods();
        List<Method> face = new ArrayList<>();
        for (Method method : methods) {
            if (java.lang.reflect.Modifier.isPublic(method.getModifiers())) {
                face.add(method);
            }
        }
        face.sort(Comparator.comparing(Method::getName));
        for (int run = 0; run < runs; run++) {
            Check.part("run " + (seed + run));
            new RandomRunsTest(seed + run).run(face);
        }
        for (int text = 0; text < TEXTS; text++) {
            Check.part("text " + (seed + text));
            new RandomRunsTest(-1 - seed - text).text();
        }
        Check.end();
    }

    private void run(List<Method> face) {
        x = new BrigadePagers();
        y = new NaiveBrigade();
        String text = new RandomText(random, true).make();
        told.add(text);
        fill(text);
        if (!same(method(face, "load"))) {
            return;
        }
        boolean isLate = random.nextInt(4) == 0;
        for (int day = 0; isLate && day < LATE_DAYS; day++) {
            x.pass(1440);
            y.pass(1440);
        }
        for (int call = 0; call < CALLS; call++) {
            if (random.nextInt(400) == 0 && !sameReloaded(method(face, "load"))) {
                return;
            }
            Method method = random.nextInt(5) < 2
                    ? method(face, CHANGES[random.nextInt(CHANGES.length)])
                    : face.get(random.nextInt(face.size()));
            if (method.getName().equals("load") || method.getName().equals("restore") && random.nextInt(4) > 0) {
                continue;
            }
            if (!same(method)) {
                return;
            }
        }
    }

    /** Another text, which may have an error, so that the run goes on with the brigade that it had. */
    private boolean sameReloaded(Method load) {
        x.truncate(0);
        y.truncate(0);
        String text = new RandomText(random, random.nextInt(3) == 0).make();
        told.add("load of " + text);
        fill(text);
        return same(load);
    }

    /** A text that has an error or not; few calls, but all that say what was read. */
    private void text() {
        x = new BrigadePagers();
        y = new NaiveBrigade();
        String text = new RandomText(random, false).make();
        fill(text);
        String got = answer(() -> x.load()) + " " + x.errorCode() + " " + x.errorPosition();
        String want = answer(() -> y.load()) + " " + y.errorCode() + " " + y.errorPosition();
        Check.due("load() of " + text, (Object) got, want);
    }

    private static String answer(Check.Answer answer) {
        try {
            return String.valueOf(answer.get());
        } catch (RuntimeException thrown) {
            return thrown.getClass().getName();
        }
    }

    private void fill(String text) {
        Check.put(x, text);
        for (int at = 0; at < text.length(); at += 20) {
            int[] words = new int[5];
            for (int i = 0; i < 20; i++) {
                int sign = at + i < text.length() ? text.charAt(at + i) : ' ';
                words[i / 4] = words[i / 4] << 8 | sign;
            }
            y.append(words[0], words[1], words[2], words[3], words[4]);
        }
        y.truncate(text.length());
    }

    private static Method method(List<Method> face, String name) {
        for (Method method : face) {
            if (method.getName().equals(name)) {
                return method;
            }
        }
        throw new AssertionError(name);
    }

    private boolean same(Method method) {
        Object[] arguments = arguments(method);
        String line = method.getName() + Arrays.toString(arguments);
        Object got = answer(method, x, arguments);
        Object want;
        try {
            want = answer(NaiveBrigade.class.getMethod(method.getName(), method.getParameterTypes()), y, arguments);
        } catch (NoSuchMethodException missing) {
            throw new AssertionError(missing);
        }
        told.add(line + " = " + want);
        Check.due(line, got, want);
        if (!want.equals(got)) {
            if (Boolean.getBoolean("tell")) {
                told.forEach(System.out::println);
            }
            return false;
        }
        return true;
    }

    private static Object answer(Method method, Object on, Object[] arguments) {
        try {
            Object answer = method.invoke(on, arguments);
            return answer == null ? "nothing" : answer;
        } catch (InvocationTargetException thrown) {
            return thrown.getCause().getClass().getName();
        } catch (IllegalAccessException hidden) {
            throw new AssertionError(hidden);
        }
    }

    private Object[] arguments(Method method) {
        String name = method.getName();
        if (name.equals("handOn") || name.equals("whyNotHandOn")) {
            int pager = number(x.count(1));
            boolean isThere = pager >= 0 && pager < x.count(1);
            int until = isThere && random.nextInt(4) > 0 ? x.holdingEnd(pager) : x.time() + random.nextInt(400);
            return new Object[] {pager, number(x.count(0)), until - (random.nextInt(3) == 0 ? random.nextInt(90) - 1 : 0)};
        }
        if (name.equals("pass")) {
            int[] spans = {1, 7, 30, 60, 90, 240, 480, 1440, 0, 1441};
            return new Object[] {random.nextInt(3) == 0 ? 1 + random.nextInt(200) : spans[random.nextInt(10)]};
        }
        if (name.equals("nightMinutes")) {
            return new Object[] {random.nextInt(20200) - 20, random.nextInt(20200)};
        }
        if (name.equals("holderAt")) {
            return new Object[] {number(x.count(1)), x.time() - 1 + random.nextInt(random.nextBoolean() ? 20163 : 700)};
        }
        if (name.equals("dutyMinutes") || name.equals("lostSleepAfter")) {
            return new Object[] {number(x.count(0)), random.nextInt(1445) - 1};
        }
        if (name.equals("setTrust")) {
            return new Object[] {number(x.count(0)), number(x.count(0)), random.nextInt(12) - 1};
        }
        if (name.equals("mans")) {
            return new Object[] {number(x.count(3)), number(2), number(2)};
        }
        if (name.equals("truncate")) {
            return new Object[] {random.nextInt(30) - 1};
        }
        if (name.equals("append")) {
            int sign = 'a' + random.nextInt(4);
            return new Object[] {sign << 24 | random.nextInt(1 << 24), random.nextInt(), 0, -1, random.nextInt()};
        }
        if (name.equals("excuse") || name.equals("setService")) {
            // Most should be ready, or no call would ever be answered.
            boolean isReady = random.nextInt(5) > 0;
            return new Object[] {number(name.equals("excuse") ? x.count(0) : x.count(2)), isReady != name.equals("excuse")};
        }
        Object[] arguments = new Object[method.getParameterCount()];
        for (int at = 0; at < arguments.length; at++) {
            arguments[at] = method.getParameterTypes()[at] == boolean.class
                    ? (Object) random.nextBoolean()
                    : (Object) number(sizeFor(name, at));
        }
        return arguments;
    }

    private int sizeFor(String name, int at) {
        switch (name) {
            case "find":
            case "count":
                return 5;
            case "save":
            case "restore":
                return 2;
            case "cost":
            case "isAnswered":
            case "came":
            case "left":
                return x.count(4);
            case "engine":
            case "leftAt":
            case "member":
                return at == 0 ? x.count(4) : 1 + at;
            case "returnsAt":
                return x.count(2);
            case "whyAbsent":
                return at == 0 ? x.count(3) : x.count(0);
            case "whyStays":
            case "departure":
            case "mans":
            case "manned":
                return at == 0 ? x.count(3) : 3;
            case "wouldAnswer":
            case "mostEngines":
            case "hoursUntilAnswered":
            case "helpfulPager":
            case "helpfulPerson":
            case "call":
                return x.count(3);
            case "chain":
            case "rotation":
            case "swapPlaces":
                return at == 0 ? x.count(1) : 4;
            case "handOns":
            case "holdingEnd":
            case "giveBack":
                return x.count(1);
            case "steps":
                return at == 0 ? x.count(1) : x.count(0);
            default:
                return x.count(0);
        }
    }

    /** Mostly a number below the size. */
    private int number(int size) {
        if (random.nextInt(40) == 0) {
            int[] odd = {-1, size, size + 1, Integer.MIN_VALUE, Integer.MAX_VALUE};
            return odd[random.nextInt(odd.length)];
        }
        return size == 0 ? 0 : random.nextInt(size);
    }
}
