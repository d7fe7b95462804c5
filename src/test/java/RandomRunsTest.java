import java.lang.reflect.InvocationTargetException;
import java.lang.reflect.Method;
import java.lang.reflect.Modifier;
import java.nio.charset.StandardCharsets;
import java.util.ArrayList;
import java.util.Comparator;
import java.util.HashMap;
import java.util.List;
import java.util.Map;
import java.util.Random;

/**
 * Random runs of calls, the same on PlanetDrive and on ReferenceDrive. The seed of a run is its
 * number, so that every run of this test makes the same calls. Arguments: the first run, the last.
 */
public final class RandomRunsTest {
    private static final int RUNS = 600;
    private static final int CALLS = 512;
    private static final String[] NAMES = {
        "a", "b", "sun", "moon", "mars", "venus", "jupiter", "neptunex", "ceres", "io", "stocks", "neptunexx", "gea"};
    private static final String[] WORDS = {
        "stock", "start", "slack", "body", "period", "retro", "on", "train", "gear", "ring", "idler", "sun", "a",
        "7", "8", "100", "101", "99", "1599", "1600", "2400", "2401", "1000", "999", "9999999", "10000000", "0",
        "00000012", "0000012", ";", ";", ":", "A", "\t", "\u00e9", "-", "\0", "stoc", "gears", ""};

    private final Random random;
    private final PlanetDrive drive = new PlanetDrive();
    private final ReferenceDrive reference = new ReferenceDrive();
    private final Map<String, Method> referenceMethods;
    private final Method[] methods;
    private final StringBuilder log = new StringBuilder();
    private int calls = 0;

    private RandomRunsTest(long seed, Method[] methods, Map<String, Method> referenceMethods) {
        this.random = new Random(seed);
        this.methods = methods;
        this.referenceMethods = referenceMethods;
    }

    public static void main(String[] args) {
        int first = args.length > 0 ? Integer.parseInt(args[0]) : 0;
        int last = args.length > 1 ? Integer.parseInt(args[1]) : RUNS - 1;
        List<Method> methods = new ArrayList<>();
        for (Method method : PlanetDrive.class.getDeclaredMethods()) {
            if (Modifier.isPublic(method.getModifiers())) {
                methods.add(method);
            }
        }
        methods.sort(Comparator.comparing(Method::getName));
        Map<String, Method> others = new HashMap<>();
        for (Method method : ReferenceDrive.class.getDeclaredMethods()) {
            if (Modifier.isPublic(method.getModifiers())) {
                others.put(method.getName(), method);
            }
        }
        for (int seed = first; seed <= last; seed++) {
            new RandomRunsTest(seed, methods.toArray(new Method[0]), others).run(seed);
        }
        Check.end("RandomRunsTest");
    }

    private void run(int seed) {
        while (calls < CALLS) {
            int choice = random.nextInt(40);
            boolean same = choice == 0 || calls == 0 ? load() : choice == 1 ? typeAnything() : callAny();
            if (!same) {
                System.out.println("run " + seed + " goes wrong at its last call:\n" + log);
                Check.isTrue("run " + seed, false);
                return;
            }
        }
        Check.isTrue("run " + seed, true);
    }

    // ---- calls ----

    private boolean callAny() {
        Method method = methods[random.nextInt(methods.length)];
        String name = method.getName();
        if (name.equals("appendInput") || name.equals("loadDrive")) {
            return true;
        }
        Object[] arguments = new Object[method.getParameterCount()];
        for (int n = 0; n < arguments.length; n++) {
            arguments[n] = argument(name, n);
        }
        return callBoth(method, arguments);
    }

    private boolean callBoth(Method method, Object... arguments) {
        calls++;
        Object got = answer(method, drive, arguments);
        Object due = answer(referenceMethods.get(method.getName()), reference, arguments);
        log.append(method.getName()).append(java.util.Arrays.toString(arguments)).append(" -> ").append(got);
        if (!got.equals(due)) {
            log.append(", due is ").append(due);
        }
        log.append('\n');
        return got.equals(due);
    }

    private static Object answer(Method method, Object on, Object[] arguments) {
        try {
            return method.invoke(on, arguments);
        } catch (InvocationTargetException e) {
            return e.getCause().getClass();
        } catch (IllegalAccessException e) {
            throw new IllegalStateException(e);
        }
    }

    private boolean callNamed(String name, Object... arguments) {
        for (Method method : methods) {
            if (method.getName().equals(name)) {
                return callBoth(method, arguments);
            }
        }
        throw new IllegalStateException(name);
    }

    // ---- arguments ----

    private int argument(String name, int place) {
        switch (random.nextInt(40)) {
            case 0:
                return random.nextInt();
            case 1:
                return random.nextBoolean() ? Integer.MIN_VALUE : Integer.MAX_VALUE;
            case 2:
                return -1;
            default:
                return fittingArgument(name, place);
        }
    }

    private int fittingArgument(String name, int place) {
        switch (name) {
            case "count":
                return random.nextInt(8);
            case "stock":
                return random.nextInt(17) - 1;
            case "daysOf", "endOf", "worst", "totalError", "leapYears", "report":
                return year();
            case "yearOf", "crank":
                return day();
            case "ranked":
                return place == 0 ? year() : random.nextInt(9);
            case "goodShare":
                return place == 0 ? year() : limit();
            case "addStock", "removeStock", "uses":
                return stockTeeth();
            case "setSlack":
                return new int[] {0, 1, 59, 999, 1000, random.nextInt(1000)}[random.nextInt(6)];
            case "truncateInput":
                return random.nextInt(30);
            case "outputByte":
                return random.nextInt(random.nextBoolean() ? 30 : 900);
            default:
                return place == 0 ? body() : bodyArgument(name, place);
        }
    }

    private int bodyArgument(String name, int place) {
        switch (name) {
            case "swapTrains", "copyTrain":
                return body();
            case "error", "growth", "worstYear", "revolutions":
                return year();
            case "printErrors":
                return place < 3 ? year() : new int[] {0, 1, 2, 25, 999, 1000, random.nextInt(40)}[random.nextInt(7)];
            case "errorBy", "angle", "trueAngle":
                return day();
            case "aligned":
                return place == 1 ? day() : orb();
            case "nextMeeting":
                return place == 1 ? body() : place == 2 ? Math.min(day(), 390001) : orb();
            case "meetingTime":
                return place == 1 ? body() : random.nextInt(3);
            case "firstBeyond":
                return limit();
            case "bestFraction":
                return place == 1 ? fractionLimit() : random.nextInt(3);
            case "convergent":
                return place == 1 ? random.nextInt(12) : random.nextInt(3);
            case "part":
                return random.nextInt(5) - (random.nextInt(9) == 0 ? 1 : 0);
            case "addPart":
                return place == 1 ? random.nextInt(7) % 4 : random.nextInt(4) == 0 ? 0 : teeth();
            case "bestTrain":
                return random.nextInt(5);
            default:
                return random.nextInt(6);
        }
    }

    private int body() {
        int bodies = reference.count(0);
        return random.nextInt(12) == 0 || bodies == 0 ? random.nextInt(10) - 1 : random.nextInt(bodies);
    }

    private int year() {
        int start = reference.count(2);
        int[] edges = {start - 1, start, start + 1, start + 998, start + 999, start + 1000, 2000, 2100};
        return random.nextInt(3) == 0 ? edges[random.nextInt(edges.length)] : start + random.nextInt(1000);
    }

    private int day() {
        int[] edges = {0, 1, 2, 365, 366, 399999, 400000, 400001, 390000};
        int now = Math.max(0, reference.count(4) + random.nextInt(7) - 3);
        switch (random.nextInt(4)) {
            case 0:
                return edges[random.nextInt(edges.length)];
            case 1:
                return now;
            default:
                return random.nextInt(400000);
        }
    }

    private int orb() {
        int[] orbs = {0, 1, 10, 1000, 100000, 648000, 648001, random.nextInt(648000)};
        return orbs[random.nextInt(orbs.length)];
    }

    private int limit() {
        int[] limits = {0, 1, 1000000000, 1000000001, random.nextInt(1000), random.nextInt(1000000000)};
        return limits[random.nextInt(limits.length)];
    }

    private int fractionLimit() {
        int[] limits = {0, 1, 2, 10, 400, random.nextInt(300), random.nextInt(50) == 0 ? 10000 : 37, 10001};
        return limits[random.nextInt(limits.length)];
    }

    private int teeth() {
        int[] edges = {7, 8, 100, 101};
        return random.nextInt(12) == 0 ? edges[random.nextInt(4)] : 8 + random.nextInt(93);
    }

    private int stockTeeth() {
        int size = reference.count(1);
        return size > 0 && random.nextInt(3) == 0 ? reference.stock(random.nextInt(size)) : teeth();
    }

    // ---- texts ----

    private boolean load() {
        return type(random.nextInt(4) == 0 ? spoilt(setup()) : setup()) && callNamed("loadDrive")
                && callNamed("errorCode") && callNamed("errorOffset") && callNamed("count", 0);
    }

    private boolean typeAnything() {
        Object[] words = new Object[5];
        for (int n = 0; n < 5; n++) {
            words[n] = random.nextBoolean() ? random.nextInt() : 0x3b3b2020;
        }
        return callNamed("appendInput", words);
    }

    private boolean type(String text) {
        byte[] bytes = text.getBytes(StandardCharsets.ISO_8859_1);
        boolean same = callNamed("truncateInput", 0);
        for (int at = 0; at < bytes.length && same; at += 20) {
            Object[] words = new Object[5];
            for (int n = 0; n < 5; n++) {
                int word = 0;
                for (int k = 0; k < 4; k++) {
                    int place = at + 4 * n + k;
                    word = word << 8 | (place < bytes.length ? bytes[place] & 255 : 32);
                }
                words[n] = word;
            }
            same = callNamed("appendInput", words);
        }
        return same && callNamed("truncateInput", bytes.length);
    }

    private String setup() {
        StringBuilder text = new StringBuilder();
        List<String> names = new ArrayList<>();
        List<String> trained = new ArrayList<>();
        // Most runs keep the stock small, for the reference is slow.
        int most = random.nextInt(10) == 0 ? 17 : 7;
        if (random.nextInt(8) > 0) {
            text.append("stock");
            for (int n = random.nextInt(most); n >= 0; n--) {
                text.append(' ').append(teeth());
            }
            text.append(';');
        }
        if (random.nextInt(3) > 0) {
            text.append("start ").append(1600 + random.nextInt(801)).append(" ;\n");
        }
        if (random.nextInt(3) > 0) {
            text.append("slack ").append(random.nextInt(1000)).append(';');
        }
        for (int n = random.nextInt(30); n > 0 && text.length() < 800; n--) {
            if (names.isEmpty() || (random.nextBoolean() && names.size() < 8)) {
                text.append(body(names));
            } else {
                String name = names.get(random.nextInt(names.size()));
                if (!trained.contains(name) || random.nextInt(40) == 0) {
                    trained.add(name);
                    text.append(train(name));
                }
            }
        }
        return text.toString();
    }

    private String body(List<String> names) {
        String name = NAMES[random.nextInt(10)];
        if (names.contains(name) && random.nextInt(20) > 0) {
            return "";
        }
        int[] periods = {100, 9999999, 36525, 2732, 100 + random.nextInt(900), 100 + random.nextInt(100000),
            100 + random.nextInt(9999900), 9999991, 9999973};
        String text = "body " + name + " period " + periods[random.nextInt(periods.length)]
                + (random.nextInt(3) == 0 ? " retro" : "");
        if (!names.isEmpty() && random.nextInt(3) == 0) {
            text += " on " + names.get(random.nextInt(1 + names.size() / 2));
        }
        names.add(name);
        return text + ";";
    }

    private String train(String name) {
        StringBuilder text = new StringBuilder("train ").append(name);
        int geared = 0;
        for (int n = random.nextInt(4); n >= 0; n--) {
            if (random.nextInt(3) > 0 && (geared < 2 || random.nextInt(30) == 0)) {
                geared++;
                text.append(random.nextBoolean() ? " gear " : " ring ").append(teeth()).append(' ').append(teeth());
            } else {
                text.append(" idler ").append(teeth());
            }
        }
        return text.append(';').toString();
    }

    private String spoilt(String text) {
        StringBuilder spoilt = new StringBuilder(text);
        for (int n = random.nextInt(3); n >= 0; n--) {
            int at = random.nextInt(spoilt.length() + 1);
            String word = random.nextBoolean() ? WORDS[random.nextInt(WORDS.length)] : NAMES[random.nextInt(NAMES.length)];
            switch (random.nextInt(3)) {
                case 0:
                    spoilt.insert(at, word);
                    break;
                case 1:
                    spoilt.insert(at, " " + word + " ");
                    break;
                default:
                    spoilt.delete(at, Math.min(spoilt.length(), at + 1 + random.nextInt(6)));
                    break;
            }
        }
        return spoilt.length() > 900 ? spoilt.substring(0, 900) : spoilt.toString();
    }
}
