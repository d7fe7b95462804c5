import java.lang.reflect.InvocationTargetException;
import java.lang.reflect.Method;
import java.lang.reflect.Modifier;
import java.util.Arrays;
import java.util.Comparator;
import java.util.List;
import java.util.Set;
import java.util.function.Supplier;

/** The sentences that hold for all calls: questions, and calls that are refused. */
final class CallSentences {
    private static final Set<String> CHANGES = Set.of("build", "addPart", "removePart", "addStock", "removeStock",
            "setSlack", "crank", "improve", "swapTrains", "copyTrain", "undo", "saveState", "restoreState");
    private static final Set<String> TYPING = Set.of("appendInput", "truncateInput", "loadDrive");
    private static final Set<String> PRINTS = Set.of("printErrors", "report", "printTrain");
    // What any argument may be: bodies, parts, teeth, years, days and limits, and what is beyond them.
    private static final int[] VALUES = {0, -1, 1, 2, 3, 7, 8, 9, 100, 101, 999, 1000, 1996, 2400, 3399, 3400, 10000,
        390000, 390001, 400000, 400001, 648000, 648001, 1000000000, 1000000001, Integer.MIN_VALUE, Integer.MAX_VALUE};
    private static final List<Supplier<PlanetDrive>> DRIVES = List.of(Drives::fresh, Drives::rich, Drives::full);
    private static final int MOST_CALLS = 60;

    private CallSentences() {
    }

    static void all() {
        Sentence.of(Sentence.DESCRIPTION, "Questions change nothing.").holds(CallSentences::questions);
        Sentence.of(Sentence.DESCRIPTION, "If several exceptions apply to a call, the one that is listed first is"
                + " thrown.").holds(CallSentences::orderOfExceptions);
        Sentence.of(Sentence.DESCRIPTION, "A method that throws changes nothing.").holds(CallSentences::refusals);
    }

    // ---- any int, in any call, in any state ----

    private static Method[] methods() {
        Method[] methods = Arrays.stream(PlanetDrive.class.getDeclaredMethods())
                .filter(method -> Modifier.isPublic(method.getModifiers())).toArray(Method[]::new);
        Arrays.sort(methods, Comparator.comparing(Method::getName));
        return methods;
    }

    /** Some rows of arguments, spread over all that VALUES allow: each value comes at each place. */
    private static Object[][] arguments(Method method) {
        int places = method.getParameterCount();
        Object[][] rows = new Object[places == 0 ? 1 : places == 1 ? VALUES.length : MOST_CALLS][places];
        for (int row = 0; row < rows.length; row++) {
            int at = row;
            for (int place = 0; place < places; place++) {
                rows[row][place] = VALUES[at % VALUES.length];
                // The next place runs at another pace, and often begins with small numbers.
                at = row % 2 == 0 ? row * (5 + 2 * place) / 3 : row * row % (4 + place);
            }
        }
        return rows;
    }

    private static Object answer(PlanetDrive drive, Method method, Object[] row) {
        try {
            return method.invoke(drive, row);
        } catch (InvocationTargetException e) {
            return e.getCause();
        } catch (IllegalAccessException e) {
            throw new IllegalStateException(e);
        }
    }

    private static void questions() {
        for (Method method : methods()) {
            String name = method.getName();
            if (CHANGES.contains(name) || TYPING.contains(name)) {
                continue;
            }
            for (Object[] row : arguments(method)) {
                String what = name + Arrays.toString(row);
                for (Supplier<PlanetDrive> made : DRIVES) {
                    if (PRINTS.contains(name)) {
                        Twins.unchangedButOutput(what, made, drive -> answer(drive, method, row));
                    } else {
                        Twins.unchanged(what, made, drive -> answer(drive, method, row));
                    }
                }
            }
        }
    }

    private static void refusals() {
        for (Method method : methods()) {
            List<Class<?>> due = Arrays.asList(method.getExceptionTypes());
            for (Object[] row : arguments(method)) {
                String what = method.getName() + Arrays.toString(row);
                for (Supplier<PlanetDrive> made : DRIVES) {
                    Object answer = answer(made.get(), method, row);
                    if (answer instanceof Throwable) {
                        Check.isTrue(what + " may throw " + answer, due.contains(answer.getClass()));
                        Twins.unchanged(what, made, drive -> answer(drive, method, row));
                    }
                }
            }
        }
    }

    // ---- several exceptions for one call ----

    private static void first(String what, Class<? extends RuntimeException> due, Supplier<PlanetDrive> made,
            Twins.Call call) {
        Refusal.refuses(what, made, due, call);
    }

    /** Calls to which all their exceptions apply; those with two kinds behind the body come below. */
    private static void orderOfExceptions() {
        for (Supplier<PlanetDrive> made : DRIVES) {
            for (int body : new int[] {-1, 8, Integer.MIN_VALUE, Integer.MAX_VALUE}) {
                bodyBeforeArguments(made, body);
                bodyBeforeState(made, body);
            }
        }
        argumentsBeforeState();
    }

    private static void bodyBeforeArguments(Supplier<PlanetDrive> made, int body) {
        Class<IndexOutOfBoundsException> due = Refusal.INDEX;
        first("body", due, made, drive -> drive.body(body, 6));
        first("part", due, made, drive -> drive.part(body, -1, 3));
        first("errorBy", due, made, drive -> drive.errorBy(body, -1));
        first("error", due, made, drive -> drive.error(body, 0));
        first("angle", due, made, drive -> drive.angle(body, 400001));
        first("trueAngle", due, made, drive -> drive.trueAngle(body, -1));
        first("firstBeyond", due, made, drive -> drive.firstBeyond(body, -1));
        first("growth", due, made, drive -> drive.growth(body, 2500, 2500));
        first("growth of no years", due, made, drive -> drive.growth(body, 0, 0));
        first("bestPair", due, made, drive -> drive.bestPair(body, 2));
        first("bestTrain", due, made, drive -> drive.bestTrain(body, 4));
        first("convergent", due, made, drive -> drive.convergent(body, -1, 2));
        first("bestFraction", due, made, drive -> drive.bestFraction(body, 0, 2));
        first("nextMeeting", due, made, drive -> drive.nextMeeting(body, 0, -1, -1));
        first("nextMeeting of other", due, made, drive -> drive.nextMeeting(0, body, 390001, 648001));
        first("worstYear", due, made, drive -> drive.worstYear(body, 2501, 2500));
        first("revolutions", due, made, drive -> drive.revolutions(body, 0));
        first("meetingTime", due, made, drive -> drive.meetingTime(body, 0, 2));
        first("meetingTime of other", due, made, drive -> drive.meetingTime(0, body, -1));
        first("aligned", due, made, drive -> drive.aligned(body, -1, -1));
        first("printErrors", due, made, drive -> drive.printErrors(body, 2501, 2500, 0));
        first("swapTrains", due, made, drive -> drive.swapTrains(body, body));
        first("copyTrain", due, made, drive -> drive.copyTrain(body, body));
    }

    private static void bodyBeforeState(Supplier<PlanetDrive> made, int body) {
        Class<IndexOutOfBoundsException> due = Refusal.INDEX;
        first("addPart", due, made, drive -> drive.addPart(body, 3, 7, 7));
        first("removePart", due, made, drive -> drive.removePart(body));
        first("build", due, made, drive -> drive.build(body));
        first("build without stock", due, () -> Check.driveOf("body a period 100;"), drive -> drive.build(body));
        first("swapTrains of other", due, made, drive -> drive.swapTrains(0, body));
    }

    private static void argumentsBeforeState() {
        first("the part before what", Refusal.ELEMENT, Drives::rich, drive -> drive.part(2, 0, 3));
        first("the part before what", Refusal.ELEMENT, Drives::full, drive -> drive.part(1, 4, -1));
        first("the year before the rank", Refusal.ARGUMENT, Drives::fresh, drive -> drive.ranked(1999, 0));
        first("the year before the rank", Refusal.ARGUMENT, Drives::rich, drive -> drive.ranked(2996, 4));
        first("the year before the rank", Refusal.ARGUMENT, Drives::full, drive -> drive.ranked(2399, -1));
        // Body 1 of the full drive has 4 parts, and 2 of them are gears.
        first("the kind before the train", Refusal.ARGUMENT, Drives::full, drive -> drive.addPart(1, 3, 8, 8));
        first("the driver before the train", Refusal.ARGUMENT, Drives::full, drive -> drive.addPart(1, 0, 7, 8));
        first("the driven before the train", Refusal.ARGUMENT, Drives::full, drive -> drive.addPart(1, 1, 8, 101));
        first("the idler before the train", Refusal.ARGUMENT, Drives::full, drive -> drive.addPart(1, 2, 8, 8));
        first("the train at last", Refusal.STATE, Drives::full, drive -> drive.addPart(1, 2, 8, 0));
        first("the teeth before the stock", Refusal.ARGUMENT, Drives::full, drive -> drive.addStock(7));
        first("the teeth before the stock", Refusal.ARGUMENT, Drives::full, drive -> drive.addStock(101));
        first("the stock at last", Refusal.STATE, Drives::full, drive -> drive.addStock(8));
    }
}
