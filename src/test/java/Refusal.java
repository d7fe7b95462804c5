import java.util.NoSuchElementException;
import java.util.function.Supplier;

/** What the tests of refused calls share: the exception that is due, and that nothing is changed. */
final class Refusal {
    static final Class<IndexOutOfBoundsException> INDEX = IndexOutOfBoundsException.class;
    static final Class<IllegalArgumentException> ARGUMENT = IllegalArgumentException.class;
    static final Class<IllegalStateException> STATE = IllegalStateException.class;
    static final Class<NoSuchElementException> ELEMENT = NoSuchElementException.class;

    /** A call with one argument that the test chooses. */
    interface IntCall {
        Object on(PlanetDrive drive, int value);
    }

    private Refusal() {
    }

    static void refuses(String what, Supplier<PlanetDrive> made, Class<? extends RuntimeException> due,
            Twins.Call call) {
        PlanetDrive drive = made.get();
        Check.refuses(what, due, () -> call.on(drive));
        Twins.unchanged(what, made, call);
    }

    static void takes(String what, Supplier<PlanetDrive> made, Twins.Call call) {
        PlanetDrive drive = made.get();
        try {
            call.on(drive);
            Check.isTrue(what, true);
        } catch (RuntimeException e) {
            Check.fail(what + " throws " + e);
        }
    }

    /** The first and the last value are taken; those beside them and the farthest are refused. */
    static void range(Supplier<PlanetDrive> made, int least, int most, Class<? extends RuntimeException> due,
            IntCall call) {
        for (int value : new int[] {least, most}) {
            takes("takes " + value, made, drive -> call.on(drive, value));
        }
        for (int value : new int[] {least - 1, most + 1, Integer.MIN_VALUE, Integer.MAX_VALUE}) {
            refuses("refuses " + value, made, due, drive -> call.on(drive, value));
        }
    }

    /** The numbers of bodies: of none, of some, and of as many as there can be. */
    static void bodies(IntCall call) {
        for (int value : new int[] {0, -1, 1, 8}) {
            refuses("refuses body " + value + " of none", Drives::fresh, INDEX, drive -> call.on(drive, value));
        }
        range(Drives::rich, 0, Drives.RICH_BODIES - 1, INDEX, call);
        range(Drives::full, 0, Drives.FULL_BODIES - 1, INDEX, call);
    }

    /** The years from start to start + 999, for the earliest and the latest start and for 2000. */
    static void years(IntCall call) {
        for (int start : new int[] {1600, 2000, 2400}) {
            range(() -> Drives.startingIn(start), start, start + 999, ARGUMENT, call);
        }
    }

    static void within(int least, int most, IntCall call) {
        range(Drives::rich, least, most, ARGUMENT, call);
        range(Drives::full, least, most, ARGUMENT, call);
    }
}
