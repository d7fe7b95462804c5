import java.nio.charset.StandardCharsets;
import java.util.function.Supplier;

/** What the tests share: loading a text, comparing answers, and the exit code. */
final class Check {
    private static final int PIECE = 20;

    private static int checks = 0;
    private static int wrong = 0;
    private static String place = "";

    private Check() {
    }

    /** What stands before each row that is wrong from now on. */
    static void at(String newPlace) {
        place = newPlace;
    }

    static int checks() {
        return checks;
    }

    static void equal(String what, long got, long due) {
        checks++;
        if (got != due) {
            report(what, Long.toString(got), Long.toString(due));
        }
    }

    static void equal(String what, double got, double due) {
        checks++;
        if (Double.doubleToLongBits(got) != Double.doubleToLongBits(due)) {
            report(what, Double.toString(got), Double.toString(due));
        }
    }

    static void equal(String what, String got, String due) {
        checks++;
        if (!got.equals(due)) {
            report(what, got, due);
        }
    }

    static void isTrue(String what, boolean got) {
        checks++;
        if (!got) {
            report(what, "false", "true");
        }
    }

    static void isFalse(String what, boolean got) {
        checks++;
        if (got) {
            report(what, "true", "false");
        }
    }

    static void fail(String what) {
        isTrue(what, false);
    }

    /** The class has to be that very one: what the Java machine throws is of a class below it. */
    static void refuses(String what, Class<? extends RuntimeException> due, Supplier<Object> call) {
        checks++;
        try {
            report(what, String.valueOf(call.get()), due.getSimpleName());
        } catch (RuntimeException e) {
            if (e.getClass() != due) {
                report(what, e.toString(), due.getSimpleName());
            }
        }
    }

    static void type(PlanetDrive drive, String text) {
        type(drive, text.getBytes(StandardCharsets.ISO_8859_1), 0);
    }

    /** Appends bytes behind the length that the buffer has. */
    static void type(PlanetDrive drive, byte[] bytes, int before) {
        for (int at = 0; at < bytes.length; at += PIECE) {
            int[] words = new int[5];
            for (int n = 0; n < PIECE; n++) {
                int sign = at + n < bytes.length ? bytes[at + n] & 255 : ' ';
                words[n / 4] = words[n / 4] << 8 | sign;
            }
            drive.appendInput(words[0], words[1], words[2], words[3], words[4]);
        }
        isTrue("the text fits into the buffer", drive.truncateInput(before + bytes.length));
    }

    static int load(PlanetDrive drive, String text) {
        type(drive, text);
        return drive.loadDrive();
    }

    static PlanetDrive driveOf(String text) {
        PlanetDrive drive = new PlanetDrive();
        isTrue("loads: " + text, load(drive, text) >= 0);
        return drive;
    }

    static String outputOf(PlanetDrive drive) {
        StringBuilder text = new StringBuilder();
        for (int at = 0; drive.outputByte(at) >= 0; at++) {
            text.append((char) drive.outputByte(at));
        }
        return text.toString();
    }

    static void end(String test) {
        System.out.println(test + ": " + checks + " checks, " + wrong + " wrong");
        if (wrong > 0) {
            System.exit(1);
        }
    }

    private static void report(String what, String got, String due) {
        wrong++;
        System.out.println(place + what + ": got " + got + ", due is " + due);
    }
}
