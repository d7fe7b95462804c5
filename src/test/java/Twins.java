import java.util.List;
import java.util.function.Function;
import java.util.function.Supplier;

/**
 * Whether a call changes nothing: two drives are made alike, the call goes to one of them, and then
 * they answer alike. What can be undone, what is saved and what was typed are seen only by calls
 * that change the drive, so that each way to look takes two drives of its own.
 */
final class Twins {
    private static final int BLANKS = 0x20202020;
    private static final int MOST_CHANGES = 13;
    private static final List<Function<PlanetDrive, String>> WAYS =
            List.of(Twins::standing, Twins::written, Twins::undone, Twins::restored, Twins::typed);

    /** A call, whatever it answers. */
    interface Call {
        Object on(PlanetDrive drive);
    }

    private Twins() {
    }

    static void unchanged(String what, Supplier<PlanetDrive> made, Call call) {
        for (Function<PlanetDrive, String> way : WAYS) {
            alike(what, made, call, way);
        }
    }

    static void unchangedButOutput(String what, Supplier<PlanetDrive> made, Call call) {
        alike(what, made, call, Twins::standing);
        alike(what, made, call, Twins::undone);
        alike(what, made, call, Twins::restored);
        alike(what, made, call, Twins::typed);
    }

    static void unchangedButText(String what, Supplier<PlanetDrive> made, Call call) {
        alike(what, made, call, Twins::standing);
        alike(what, made, call, Twins::written);
        alike(what, made, call, Twins::undone);
        alike(what, made, call, Twins::restored);
    }

    private static void alike(String what, Supplier<PlanetDrive> made, Call call, Function<PlanetDrive, String> way) {
        PlanetDrive called = made.get();
        try {
            call.on(called);
        } catch (RuntimeException e) {
            // Which one it is, the caller looks at.
        }
        Check.equal(what + " changes nothing", way.apply(called), way.apply(made.get()));
    }

    /** All that questions tell, but the output and the latest error. */
    static String standing(PlanetDrive drive) {
        StringBuilder text = new StringBuilder("counts");
        for (int what = 0; what < 7; what++) {
            text.append(' ').append(drive.count(what));
        }
        text.append(", stock");
        for (int index = 0; index < drive.count(1); index++) {
            text.append(' ').append(drive.stock(index));
        }
        for (int body = 0; body < drive.count(0); body++) {
            text.append("; body");
            for (int what = 0; what < 6; what++) {
                text.append(' ').append(drive.body(body, what));
            }
            text.append(" parts");
            for (int part = 0; part < drive.body(body, 3); part++) {
                for (int what = 0; what < 3; what++) {
                    text.append(' ').append(drive.part(body, part, what));
                }
            }
            text.append(" lag ").append(drive.lag(body)).append(" shows ").append(drive.shown(body));
        }
        return text.toString();
    }

    private static String written(PlanetDrive drive) {
        return Check.outputOf(drive);
    }

    /** So short that it can be asked behind each of 12 changes: no object answers over 512 calls. */
    private static String brief(PlanetDrive drive) {
        StringBuilder text = new StringBuilder();
        for (int what : new int[] {1, 3, 4, 5, 6}) {
            text.append(' ').append(drive.count(what));
        }
        for (int body = 0; body < drive.count(0); body++) {
            text.append(' ').append(drive.lag(body)).append(' ').append(drive.numerator(body));
        }
        return text.toString();
    }

    private static String undone(PlanetDrive drive) {
        StringBuilder text = new StringBuilder();
        int left = drive.undo();
        for (int n = 0; n < MOST_CHANGES && left >= 0; n++) {
            text.append(left).append(brief(drive)).append("; ");
            left = drive.undo();
        }
        return text.append(left).append(brief(drive)).toString();
    }

    private static String restored(PlanetDrive drive) {
        try {
            return drive.restoreState() + standing(drive);
        } catch (IllegalStateException e) {
            return "nothing is saved";
        }
    }

    private static String typed(PlanetDrive drive) {
        StringBuilder text = new StringBuilder();
        text.append(drive.errorCode()).append(' ').append(drive.errorOffset());
        for (int length = 900; length > 880 && !drive.truncateInput(length); length--) {
            text.append('.');
        }
        text.append(' ').append(drive.appendInput(BLANKS, BLANKS, BLANKS, BLANKS, BLANKS));
        text.append(' ').append(drive.loadDrive()).append(' ').append(drive.errorOffset());
        return text.append(standing(drive)).toString();
    }
}
