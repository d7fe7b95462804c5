import java.math.BigInteger;
import java.nio.charset.StandardCharsets;
import java.time.LocalDate;
import java.time.temporal.ChronoUnit;
import java.util.ArrayDeque;
import java.util.ArrayList;
import java.util.Deque;
import java.util.HashSet;
import java.util.List;
import java.util.NoSuchElementException;
import java.util.Set;
import java.util.TreeSet;
import java.util.regex.Matcher;
import java.util.regex.Pattern;

/**
 * The document once more, told as plainly as the whole Java library lets it be told: fractions of
 * BigInteger, the days of java.time, texts cut by a pattern. RandomRunsTest holds the class to it.
 */
public final class ReferenceDrive {
    private static final BigInteger CIRCLE = BigInteger.valueOf(1296000);
    private static final Pattern TOKEN = Pattern.compile("[ \n]+|[a-z]+|[0-9]+|.", Pattern.DOTALL);
    private static final Set<String> RESERVED = Set.of(
            "stock", "start", "slack", "body", "period", "retro", "on", "train", "gear", "ring", "idler");

    private StringBuilder input = new StringBuilder();
    private int code = 0;
    private int offset = -1;
    private int start = 2000;
    private List<Body> bodies = new ArrayList<>();
    private State state = new State();
    private final Deque<State> past = new ArrayDeque<>();
    private State saved = null;
    private String output = "";

    private record Body(String name, int period, boolean retro, int carrier) {
    }

    private record Part(int kind, int driver, int driven) {
    }

    private static final class State {
        TreeSet<Integer> stock = new TreeSet<>();
        int slack = 60;
        int day = 0;
        List<Integer> lags = new ArrayList<>();
        List<List<Part>> trains = new ArrayList<>();

        State copy() {
            State copy = new State();
            copy.stock = new TreeSet<>(stock);
            copy.slack = slack;
            copy.day = day;
            copy.lags = new ArrayList<>(lags);
            for (List<Part> train : trains) {
                copy.trains.add(new ArrayList<>(train));
            }
            return copy;
        }
    }

    private record Frac(BigInteger top, BigInteger bottom) {
        static Frac of(long top, long bottom) {
            return lowest(BigInteger.valueOf(top), BigInteger.valueOf(bottom));
        }

        static Frac lowest(BigInteger top, BigInteger bottom) {
            BigInteger g = top.gcd(bottom);
            if (bottom.signum() < 0) {
                g = g.negate();
            }
            return new Frac(top.divide(g), bottom.divide(g));
        }

        Frac plus(Frac o) {
            return lowest(top.multiply(o.bottom).add(o.top.multiply(bottom)), bottom.multiply(o.bottom));
        }

        Frac minus(Frac o) {
            return plus(new Frac(o.top.negate(), o.bottom));
        }

        Frac times(Frac o) {
            return lowest(top.multiply(o.top), bottom.multiply(o.bottom));
        }

        Frac times(long n) {
            return times(of(n, 1));
        }

        Frac abs() {
            return new Frac(top.abs(), bottom);
        }

        int compare(Frac o) {
            return top.multiply(o.bottom).compareTo(o.top.multiply(bottom));
        }

        BigInteger floor() {
            BigInteger[] parts = top.divideAndRemainder(bottom);
            return parts[1].signum() < 0 ? parts[0].subtract(BigInteger.ONE) : parts[0];
        }

        long truncated() {
            return top.divide(bottom).longValueExact();
        }
    }

    private static final class Fault extends Exception {
        private static final long serialVersionUID = 1;
        final int code;
        final int at;

        Fault(int code, int at) {
            this.code = code;
            this.at = at;
        }
    }

    // ---- the text ----

    public int appendInput(int a, int b, int c, int d, int e) {
        if (input.length() > 880) {
            return -1;
        }
        for (int word : new int[] {a, b, c, d, e}) {
            byte[] bytes = BigInteger.valueOf(word & 0xffffffffL | 1L << 32).toByteArray();
            input.append(new String(bytes, 1, 4, StandardCharsets.ISO_8859_1));
        }
        return input.length();
    }

    public boolean truncateInput(int length) {
        if (length < 0 || length > input.length()) {
            return false;
        }
        input = new StringBuilder(input.substring(0, length));
        return true;
    }

    private final class Reader {
        final List<String> tokens = new ArrayList<>();
        final List<Integer> places = new ArrayList<>();
        final List<Body> newBodies = new ArrayList<>();
        final State made = new State();
        final Set<String> once = new HashSet<>();
        int newStart = 2000;
        int at = 0;

        Reader(String text) {
            Matcher matcher = TOKEN.matcher(text);
            while (matcher.find()) {
                if (!matcher.group().isBlank() || !matcher.group().matches("[ \n]+")) {
                    tokens.add(matcher.group());
                    places.add(matcher.start());
                }
            }
            tokens.add("");
            places.add(text.length());
        }

        Fault fault(int code) {
            return new Fault(code, places.get(at));
        }

        String word() {
            return tokens.get(at);
        }

        int number(int least, int most) throws Fault {
            if (!word().matches("[0-9]{1,7}")) {
                throw fault(1);
            }
            int number = Integer.parseInt(word());
            if (number < least || number > most) {
                throw fault(2);
            }
            return number;
        }

        String name() throws Fault {
            if (!word().matches("[a-z]{1,8}") || RESERVED.contains(word())) {
                throw fault(1);
            }
            return word();
        }

        int find(String name) {
            for (int k = 0; k < newBodies.size(); k++) {
                if (newBodies.get(k).name().equals(name)) {
                    return k;
                }
            }
            return -1;
        }

        void read() throws Fault {
            while (!word().isEmpty()) {
                switch (word()) {
                    case "stock", "start", "slack" -> single(word());
                    case "body" -> body();
                    case "train" -> train();
                    default -> throw fault(1);
                }
                if (!word().equals(";")) {
                    throw fault(1);
                }
                at++;
            }
        }

        void single(String kind) throws Fault {
            if (!once.add(kind)) {
                throw fault(4);
            }
            at++;
            if (kind.equals("start")) {
                newStart = number(1600, 2400);
                at++;
                return;
            }
            if (kind.equals("slack")) {
                made.slack = number(0, 999);
                at++;
                return;
            }
            do {
                int teeth = number(8, 100);
                if (made.stock.size() == 16 || !made.stock.add(teeth)) {
                    throw fault(4);
                }
                at++;
            } while (word().matches("[0-9]+"));
        }

        void body() throws Fault {
            if (newBodies.size() == 8) {
                throw fault(4);
            }
            at++;
            String name = name();
            if (find(name) >= 0) {
                throw fault(3);
            }
            at++;
            if (!word().equals("period")) {
                throw fault(1);
            }
            at++;
            int period = number(100, 9999999);
            at++;
            boolean retro = word().equals("retro");
            at += retro ? 1 : 0;
            int carrier = -1;
            if (word().equals("on")) {
                at++;
                carrier = find(name());
                if (carrier < 0 || newBodies.get(carrier).carrier() >= 0) {
                    throw fault(3);
                }
                at++;
            }
            newBodies.add(new Body(name, period, retro, carrier));
            made.lags.add(0);
            made.trains.add(new ArrayList<>());
        }

        void train() throws Fault {
            at++;
            int body = find(name());
            if (body < 0) {
                throw fault(3);
            }
            List<Part> train = made.trains.get(body);
            if (!train.isEmpty()) {
                throw fault(4);
            }
            at++;
            do {
                int kind = List.of("gear", "ring", "idler").indexOf(word());
                if (kind < 0) {
                    throw fault(1);
                }
                if (train.size() == 4 || (kind < 2 && train.stream().filter(p -> p.kind() < 2).count() == 2)) {
                    throw fault(4);
                }
                at++;
                int driver = number(8, 100);
                at++;
                int driven = 0;
                if (kind < 2) {
                    driven = number(8, 100);
                    at++;
                }
                train.add(new Part(kind, driver, driven));
            } while (!word().equals(";"));
        }
    }

    public int loadDrive() {
        Reader reader = new Reader(input.toString());
        input = new StringBuilder();
        try {
            reader.read();
        } catch (Fault fault) {
            code = fault.code;
            offset = fault.at;
            return -1;
        }
        code = 0;
        offset = -1;
        start = reader.newStart;
        bodies = reader.newBodies;
        state = reader.made;
        past.clear();
        saved = null;
        return bodies.size();
    }

    public int errorCode() {
        return code;
    }

    public int errorOffset() {
        return offset;
    }

    // ---- refusals ----

    private void body(int body) {
        if (body < 0 || body >= bodies.size()) {
            throw new IndexOutOfBoundsException();
        }
    }

    private static void argument(boolean good) {
        if (!good) {
            throw new IllegalArgumentException();
        }
    }

    private void year(int year) {
        argument(year >= start && year <= start + 999);
    }

    private static void day(int day) {
        argument(day >= 0 && day <= 400000);
    }

    // ---- numbers ----

    private Frac own(List<Part> train) {
        if (train.isEmpty()) {
            return Frac.of(0, 1);
        }
        Frac ratio = Frac.of(1, 1);
        for (Part part : train) {
            if (part.kind() < 2) {
                ratio = ratio.times(Frac.of(part.driver(), part.driven()));
            }
            if (part.kind() != 1) {
                ratio = ratio.times(-1);
            }
        }
        return ratio;
    }

    private Frac ratio(int body) {
        Frac ratio = own(state.trains.get(body));
        int carrier = bodies.get(body).carrier();
        return carrier < 0 ? ratio : ratio.plus(own(state.trains.get(carrier)));
    }

    private Frac due(int body) {
        return Frac.of(bodies.get(body).retro() ? -100 : 100, bodies.get(body).period());
    }

    private Frac dueOwn(int body) {
        int carrier = bodies.get(body).carrier();
        return carrier < 0 ? due(body) : due(body).minus(due(carrier));
    }

    private static int angleOf(Frac rate, int day) {
        Frac turns = rate.times(day);
        Frac fraction = turns.minus(Frac.lowest(turns.floor(), BigInteger.ONE));
        return fraction.times(1296000).floor().intValueExact();
    }

    private long errorAt(int body, int day) {
        return ratio(body).times(day).minus(due(body).times(day)).times(1296000).truncated();
    }

    private long miss(int body, int year) {
        return Math.abs(errorAt(body, endDay(year)));
    }

    private int endDay(int year) {
        return (int) ChronoUnit.DAYS.between(LocalDate.of(start, 1, 1), LocalDate.of(year + 1, 1, 1));
    }

    private static int teeth(List<Part> train) {
        return train.stream().mapToInt(p -> p.driver() + p.driven()).sum();
    }

    private static List<Integer> wheels(List<Part> train) {
        List<Integer> wheels = new ArrayList<>();
        for (Part part : train) {
            wheels.add(part.driver());
            if (part.kind() < 2) {
                wheels.add(part.driven());
            }
        }
        return wheels;
    }

    private int backlashOf(int body) {
        List<Part> train = state.trains.get(body);
        Frac sum = Frac.of(0, 1);
        for (int k = 0; k < train.size(); k++) {
            Frac each = Frac.of(state.slack, 1);
            for (Part behind : train.subList(k + 1, train.size())) {
                if (behind.kind() < 2) {
                    each = each.times(Frac.of(behind.driver(), behind.driven()));
                }
            }
            sum = sum.plus(each.times(train.get(k).kind() == 2 ? 2 : 1));
        }
        return sum.floor().intValueExact();
    }

    private BigInteger drum(int body, int day) {
        return ratio(body).times(day).times(1296000).floor();
    }

    // ---- questions ----

    public int count(int what) {
        argument(what >= 0 && what <= 6);
        return switch (what) {
            case 0 -> bodies.size();
            case 1 -> state.stock.size();
            case 2 -> start;
            case 3 -> state.slack;
            case 4 -> state.day;
            case 5 -> past.size();
            default -> state.trains.stream().mapToInt(ReferenceDrive::teeth).sum();
        };
    }

    public int body(int body, int what) {
        body(body);
        argument(what >= 0 && what <= 5);
        List<Part> train = state.trains.get(body);
        return switch (what) {
            case 0 -> bodies.get(body).period();
            case 1 -> bodies.get(body).retro() ? 1 : 0;
            case 2 -> bodies.get(body).carrier();
            case 3 -> train.size();
            case 4 -> teeth(train);
            default -> train.stream().mapToInt(p -> p.kind() == 2 ? 2 : 1).sum();
        };
    }

    public int part(int body, int part, int what) {
        body(body);
        List<Part> train = state.trains.get(body);
        if (part < 0 || part >= train.size()) {
            throw new NoSuchElementException();
        }
        argument(what >= 0 && what <= 2);
        Part found = train.get(part);
        return what == 0 ? found.kind() : what == 1 ? found.driver() : found.driven();
    }

    public int stock(int index) {
        if (index < 0 || index >= state.stock.size()) {
            throw new NoSuchElementException();
        }
        return new ArrayList<>(state.stock).get(index);
    }

    public long numerator(int body) {
        body(body);
        return ratio(body).top().longValueExact();
    }

    public long denominator(int body) {
        body(body);
        return ratio(body).bottom().longValueExact();
    }

    public int daysOf(int year) {
        year(year);
        return LocalDate.of(year, 1, 1).lengthOfYear();
    }

    public int endOf(int year) {
        year(year);
        return endDay(year);
    }

    public int yearOf(int day) {
        day(day);
        return LocalDate.of(start, 1, 1).plusDays(day).getYear();
    }

    public long errorBy(int body, int day) {
        body(body);
        day(day);
        return errorAt(body, day);
    }

    public long error(int body, int year) {
        body(body);
        year(year);
        return errorAt(body, endDay(year));
    }

    public int angle(int body, int day) {
        body(body);
        day(day);
        return angleOf(ratio(body), day);
    }

    public int trueAngle(int body, int day) {
        body(body);
        day(day);
        return angleOf(due(body), day);
    }

    private List<Integer> order(int year) {
        List<Integer> order = new ArrayList<>();
        for (int k = 0; k < bodies.size(); k++) {
            order.add(k);
        }
        order.sort((a, b) -> miss(a, year) != miss(b, year) ? Long.compare(miss(a, year), miss(b, year)) : a - b);
        return order;
    }

    public int worst(int year) {
        year(year);
        int worst = -1;
        for (int k = bodies.size() - 1; k >= 0; k--) {
            if (worst < 0 || miss(k, year) >= miss(worst, year)) {
                worst = k;
            }
        }
        return worst;
    }

    public int ranked(int year, int rank) {
        year(year);
        if (rank < 0 || rank >= bodies.size()) {
            throw new NoSuchElementException();
        }
        return order(year).get(rank);
    }

    public int firstBeyond(int body, int limit) {
        body(body);
        argument(limit >= 0 && limit <= 1000000000);
        for (int year = start; year <= start + 999; year++) {
            if (miss(body, year) > limit) {
                return year;
            }
        }
        return -1;
    }

    public long totalError(int year) {
        year(year);
        long sum = 0;
        for (int k = 0; k < bodies.size(); k++) {
            sum += miss(k, year);
        }
        return sum;
    }

    public long growth(int body, int from, int to) {
        body(body);
        year(from);
        year(to);
        argument(to > from);
        long most = 0;
        for (int year = from; year < to; year++) {
            most = Math.max(most, Math.abs(errorAt(body, endDay(year + 1)) - errorAt(body, endDay(year))));
        }
        return most;
    }

    private int[] best(int body, boolean two) {
        Frac aim = dueOwn(body).abs();
        int[] best = null;
        Frac least = null;
        List<int[]> pairs = new ArrayList<>();
        for (int a : state.stock) {
            for (int b : state.stock) {
                if (a != b) {
                    pairs.add(new int[] {a, b});
                }
            }
        }
        for (int i = 0; i < pairs.size(); i++) {
            for (int j = two ? i : -1; j < (two ? pairs.size() : 0); j++) {
                int[] p = pairs.get(i);
                int[] q = two ? pairs.get(j) : new int[] {1, 1};
                Frac off = Frac.of((long) p[0] * q[0], (long) p[1] * q[1]).minus(aim).abs();
                int[] one = {p[0], p[1], q[0], q[1]};
                int order = best == null ? -1 : off.compare(least);
                if (order < 0 || (order == 0 && before(one, best))) {
                    best = one;
                    least = off;
                }
            }
        }
        return best;
    }

    private static boolean before(int[] one, int[] two) {
        int sums = one[0] + one[1] + one[2] + one[3] - two[0] - two[1] - two[2] - two[3];
        return sums != 0 ? sums < 0 : java.util.Arrays.compare(one, two) < 0;
    }

    public int bestPair(int body, int what) {
        body(body);
        argument(what >= 0 && what <= 1);
        return state.stock.size() < 2 ? -1 : best(body, false)[what];
    }

    public int bestTrain(int body, int what) {
        body(body);
        argument(what >= 0 && what <= 3);
        return state.stock.size() < 2 ? -1 : best(body, true)[what];
    }

    public long convergent(int body, int index, int what) {
        body(body);
        argument(index >= 0 && what >= 0 && what <= 1);
        List<BigInteger> terms = new ArrayList<>();
        Frac rest = due(body).abs();
        while (true) {
            terms.add(rest.floor());
            rest = rest.minus(Frac.lowest(rest.floor(), BigInteger.ONE));
            if (rest.top().signum() == 0) {
                break;
            }
            rest = Frac.lowest(rest.bottom(), rest.top());
        }
        if (index >= terms.size()) {
            return -1;
        }
        Frac value = Frac.lowest(terms.get(index), BigInteger.ONE);
        for (int k = index - 1; k >= 0; k--) {
            value = Frac.lowest(value.bottom(), value.top()).plus(Frac.lowest(terms.get(k), BigInteger.ONE));
        }
        return (what == 0 ? value.top() : value.bottom()).longValueExact();
    }

    public int bestFraction(int body, int limit, int what) {
        body(body);
        argument(limit >= 1 && limit <= 10000 && what >= 0 && what <= 1);
        Frac aim = due(body).abs();
        Frac least = null;
        int[] best = null;
        for (int q = 1; q <= limit; q++) {
            int p = aim.times(q).floor().intValueExact();
            for (int n = p; n <= p + 1; n++) {
                Frac off = Frac.of(n, q).minus(aim).abs();
                if (best == null || off.compare(least) < 0) {
                    least = off;
                    best = new int[] {n, q};
                }
            }
        }
        return best[what];
    }

    public int backlash(int body) {
        body(body);
        return backlashOf(body);
    }

    public int lag(int body) {
        body(body);
        return state.lags.get(body);
    }

    public int shown(int body) {
        body(body);
        return drum(body, state.day).add(BigInteger.valueOf(state.lags.get(body))).mod(CIRCLE).intValueExact();
    }

    public int missing(int body) {
        body(body);
        return (int) wheels(state.trains.get(body)).stream().filter(w -> !state.stock.contains(w)).count();
    }

    private static boolean near(int one, int two, int orb) {
        int way = Math.floorMod(one - two, 1296000);
        return way <= orb || 1296000 - way <= orb;
    }

    public int nextMeeting(int body, int other, int day, int orb) {
        body(body);
        body(other);
        argument(day >= 0 && day <= 390000 && orb >= 0 && orb <= 648000);
        Frac one = ratio(body);
        Frac two = ratio(other);
        for (int next = day + 1; next <= day + 10000; next++) {
            if (near(angleOf(one, next), angleOf(two, next), orb)) {
                return next;
            }
        }
        return -1;
    }

    public double accuracy(int body) {
        body(body);
        Frac is = ratio(body);
        Frac due = due(body);
        return (is.top().doubleValue() / is.bottom().doubleValue())
                / (due.top().doubleValue() / due.bottom().doubleValue());
    }

    public int worstYear(int body, int from, int to) {
        body(body);
        year(from);
        year(to);
        argument(to >= from);
        int worst = from;
        for (int year = from; year <= to; year++) {
            if (miss(body, year) > miss(body, worst)) {
                worst = year;
            }
        }
        return worst;
    }

    public long revolutions(int body, int year) {
        body(body);
        year(year);
        return ratio(body).times(endDay(year)).floor().longValueExact();
    }

    public int leapYears(int from, int to) {
        year(from);
        year(to);
        argument(to >= from);
        int leap = 0;
        for (int year = from; year <= to; year++) {
            leap += LocalDate.of(year, 1, 1).isLeapYear() ? 1 : 0;
        }
        return leap;
    }

    public long meetingTime(int body, int other, int what) {
        body(body);
        body(other);
        argument(what >= 0 && what <= 1);
        Frac difference = ratio(body).minus(ratio(other)).abs();
        if (difference.top().signum() == 0) {
            return -1;
        }
        return (what == 0 ? difference.bottom() : difference.top()).longValueExact();
    }

    public int aligned(int body, int day, int orb) {
        body(body);
        day(day);
        argument(orb >= 0 && orb <= 648000);
        int mask = 0;
        for (int k = 0; k < bodies.size(); k++) {
            if (near(angleOf(ratio(body), day), angleOf(ratio(k), day), orb)) {
                mask += 1 << k;
            }
        }
        return mask;
    }

    public int uses(int teeth) {
        int uses = 0;
        for (List<Part> train : state.trains) {
            uses += (int) wheels(train).stream().filter(w -> w == teeth).count();
        }
        return uses;
    }

    public float goodShare(int year, int limit) {
        year(year);
        argument(limit >= 0 && limit <= 1000000000);
        int good = 0;
        for (int k = 0; k < bodies.size(); k++) {
            good += miss(k, year) <= limit ? 1 : 0;
        }
        return bodies.isEmpty() ? 1f : (float) good / (float) bodies.size();
    }

    // ---- output ----

    public int printErrors(int body, int first, int last, int step) {
        body(body);
        year(first);
        year(last);
        argument(step >= 1 && step <= 999 && last >= first);
        output = "";
        for (int n = 0; n < 40 && first + n * step <= last; n++) {
            int year = first + n * step;
            output += year + ":" + errorAt(body, endDay(year)) + ";";
        }
        return output.length();
    }

    public int report(int year) {
        year(year);
        output = "";
        for (int k = 0; k < bodies.size(); k++) {
            output += bodies.get(k).name() + ":" + errorAt(k, endDay(year)) + "\n";
        }
        return output.length();
    }

    public int printTrain(int body) {
        body(body);
        List<String> texts = new ArrayList<>();
        for (Part part : state.trains.get(body)) {
            texts.add(part.kind() == 2 ? part.driver() + "i"
                    : part.driver() + (part.kind() == 0 ? "/" : "o") + part.driven());
        }
        Frac ratio = ratio(body);
        output = String.join("*", texts) + "=" + ratio.top() + ":" + ratio.bottom();
        return output.length();
    }

    public int outputByte(int index) {
        return index < 0 || index >= output.length() ? -1 : output.charAt(index);
    }

    // ---- changes ----

    private void change() {
        past.addLast(state.copy());
        if (past.size() > 12) {
            past.removeFirst();
        }
    }

    private int changeTrain(int body, List<Part> train) {
        change();
        state.trains.set(body, new ArrayList<>(train));
        state.lags.set(body, 0);
        return train.size();
    }

    public int build(int body) {
        body(body);
        if (state.stock.size() < 2) {
            throw new IllegalStateException();
        }
        int[] best = best(body, true);
        List<Part> train = new ArrayList<>();
        train.add(new Part(0, best[0], best[1]));
        train.add(new Part(0, best[2], best[3]));
        if (dueOwn(body).top().signum() < 0) {
            train.add(new Part(2, state.stock.first(), 0));
        }
        return changeTrain(body, train);
    }

    public int addPart(int body, int kind, int driver, int driven) {
        body(body);
        argument(kind >= 0 && kind <= 2 && driver >= 8 && driver <= 100);
        argument(kind == 2 ? driven == 0 : driven >= 8 && driven <= 100);
        List<Part> train = new ArrayList<>(state.trains.get(body));
        if (train.size() == 4 || (kind < 2 && train.stream().filter(p -> p.kind() < 2).count() >= 2)) {
            throw new IllegalStateException();
        }
        train.add(new Part(kind, driver, driven));
        return changeTrain(body, train);
    }

    public int removePart(int body) {
        body(body);
        List<Part> train = state.trains.get(body);
        if (train.isEmpty()) {
            throw new IllegalStateException();
        }
        return changeTrain(body, train.subList(0, train.size() - 1));
    }

    public int addStock(int teeth) {
        argument(teeth >= 8 && teeth <= 100);
        if (state.stock.contains(teeth) || state.stock.size() == 16) {
            throw new IllegalStateException();
        }
        change();
        state.stock.add(teeth);
        return state.stock.size();
    }

    public boolean removeStock(int teeth) {
        if (!state.stock.contains(teeth)) {
            return false;
        }
        change();
        return state.stock.remove(teeth);
    }

    public int setSlack(int slack) {
        argument(slack >= 0 && slack <= 999);
        int before = state.slack;
        change();
        state.slack = slack;
        state.lags.replaceAll(lag -> 0);
        return before;
    }

    public int crank(int day) {
        day(day);
        int before = state.day;
        change();
        for (int k = 0; k < bodies.size(); k++) {
            BigInteger lag = BigInteger.valueOf(state.lags.get(k)).subtract(drum(k, day).subtract(drum(k, before)));
            lag = lag.max(BigInteger.ZERO).min(BigInteger.valueOf(backlashOf(k)));
            state.lags.set(k, lag.intValueExact());
        }
        state.day = day;
        return before;
    }

    public int improve(int body) {
        body(body);
        List<Part> now = state.trains.get(body);
        Frac least = null;
        List<Part> best = null;
        int found = -1;
        Frac carrier = ratio(body).minus(own(now));
        for (int k = 0; k < now.size(); k++) {
            Part part = now.get(k);
            for (int side = 0; side < 2 && part.kind() < 2; side++) {
                for (int teeth : state.stock) {
                    if (teeth == (side == 0 ? part.driver() : part.driven())) {
                        continue;
                    }
                    List<Part> other = new ArrayList<>(now);
                    other.set(k, side == 0 ? new Part(part.kind(), teeth, part.driven())
                            : new Part(part.kind(), part.driver(), teeth));
                    Frac off = own(other).plus(carrier).minus(due(body)).abs();
                    if (best == null || off.compare(least) < 0) {
                        best = other;
                        least = off;
                        found = teeth;
                    }
                }
            }
        }
        if (best == null || least.compare(ratio(body).minus(due(body)).abs()) >= 0) {
            return -1;
        }
        changeTrain(body, best);
        return found;
    }

    public int swapTrains(int body, int other) {
        body(body);
        body(other);
        argument(body != other);
        change();
        List<Part> train = state.trains.get(body);
        state.trains.set(body, state.trains.get(other));
        state.trains.set(other, train);
        state.lags.set(body, 0);
        state.lags.set(other, 0);
        return state.trains.get(body).size();
    }

    public int copyTrain(int body, int other) {
        body(body);
        body(other);
        argument(body != other);
        return changeTrain(other, state.trains.get(body));
    }

    public int undo() {
        if (past.isEmpty()) {
            return -1;
        }
        state = past.removeLast();
        return past.size();
    }

    public int saveState() {
        saved = state.copy();
        return state.day;
    }

    public int restoreState() {
        if (saved == null) {
            throw new IllegalStateException();
        }
        state = saved.copy();
        past.clear();
        return state.day;
    }
}
