import java.util.NoSuchElementException;

/** Promises 16 to 24, 41, 45, 46 and 51: errors, angles and turns. */
public final class ErrorsTest {
    private static final Class<IndexOutOfBoundsException> INDEX = IndexOutOfBoundsException.class;
    private static final Class<IllegalArgumentException> ARGUMENT = IllegalArgumentException.class;
    private static final Class<NoSuchElementException> ELEMENT = NoSuchElementException.class;

    // Ratios: 1/88, 521/11000, -1/70 and 1; due are 100/8797, 25/683, -1/70 and 1.
    private static final String TEXT = "body mercury period 8797;body moon period 2732 on mercury;"
            + "body comet period 7000 retro;body star period 100;"
            + "train mercury gear 10 88 gear 9 90;train moon ring 9 100 gear 30 75 idler 20;"
            + "train comet gear 10 70 ring 10 100;train star ring 20 20;";
    private static final int[] WRONG_BODIES = {-1, 4, 8, Integer.MIN_VALUE, Integer.MAX_VALUE};
    private static final int[] WRONG_DAYS = {-1, 400001, Integer.MIN_VALUE, Integer.MAX_VALUE};
    private static final int[] WRONG_YEARS = {1999, 3000, 0, Integer.MIN_VALUE, Integer.MAX_VALUE};
    private static final int[] WRONG_LIMITS = {-1, 1000000001, Integer.MIN_VALUE, Integer.MAX_VALUE};

    private ErrorsTest() {
    }

    public static void main(String[] args) {
        errorsByDays();
        errorsAtTheEndsOfYears();
        errorsThatALongHardlyHolds();
        angles();
        trueAngles();
        findsTheWorst();
        ranks();
        findsTheFirstBeyond();
        sumsErrors();
        findsTheGrowth();
        tellsTheAccuracy();
        findsTheWorstYear();
        countsRevolutions();
        tellsTheGoodShare();
        takesEightBodies();
        Check.end("ErrorsTest");
    }

    private static PlanetDrive drive() {
        return Check.driveOf(TEXT);
    }

    private static void errorsByDays() {
        PlanetDrive drive = drive();
        int[] days = {0, 1, 366, 400000};
        // Truncated toward zero, so that the first body's are not rounded down.
        long[][] due = {{0, -5, -1838, -2008949}, {0, 13945, 5104052, 5578199281L}, {0, 0, 0, 0}, {0, 0, 0, 0}};
        for (int body = 0; body < due.length; body++) {
            for (int n = 0; n < days.length; n++) {
                Check.equal("error of " + body + " by " + days[n], drive.errorBy(body, days[n]), due[body][n]);
            }
        }
        for (int wrong : WRONG_BODIES) {
            Check.refuses("body " + wrong, INDEX, () -> drive.errorBy(wrong, 0));
            Check.refuses("body first", INDEX, () -> drive.errorBy(wrong, -1));
        }
        for (int wrong : WRONG_DAYS) {
            Check.refuses("day " + wrong, ARGUMENT, () -> drive.errorBy(0, wrong));
        }
    }

    private static void errorsAtTheEndsOfYears() {
        PlanetDrive drive = drive();
        int[] years = {2000, 2001, 2999};
        long[][] due = {{-1838, -3671, -1834386}, {5104052, 10194159, 5093495600L}, {0, 0, 0}, {0, 0, 0}};
        for (int body = 0; body < due.length; body++) {
            for (int n = 0; n < years.length; n++) {
                Check.equal("error of " + body + " in " + years[n], drive.error(body, years[n]), due[body][n]);
            }
        }
        for (int wrong : WRONG_BODIES) {
            Check.refuses("body " + wrong, INDEX, () -> drive.error(wrong, 2000));
            Check.refuses("body first", INDEX, () -> drive.error(wrong, 0));
        }
        for (int wrong : WRONG_YEARS) {
            Check.refuses("year " + wrong, ARGUMENT, () -> drive.error(0, wrong));
        }
    }

    private static void errorsThatALongHardlyHolds() {
        PlanetDrive drive = Check.driveOf("body a period 9999991;body b period 9999973 retro on a;"
                + "body c period 100;body d period 100 retro on c;"
                + "train a gear 89 97 gear 83 99;train b ring 79 91 gear 73 100;"
                + "train c gear 100 8 gear 100 8;train d ring 100 8 ring 100 8;");
        Check.equal("a", drive.errorBy(0, 400000), 398768199313L);
        Check.equal("b", drive.errorBy(1, 400000), 70249688210L);
        Check.equal("b by a day", drive.errorBy(1, 399999), 70249512586L);
        Check.equal("c", drive.errorBy(2, 400000), 80481600000000L);
        Check.equal("d", drive.errorBy(3, 400000), 162518400000000L);
        Check.equal("turns of d", drive.revolutions(3, 2999), 114138437);
        Check.equal("angle of b", drive.angle(1, 399999), 1128585);
    }

    private static void angles() {
        PlanetDrive drive = drive();
        int[] days = {0, 1, 12345, 400000};
        int[][] due = {{0, 14727, 368181, 589090}, {0, 61383, 912501, 589090}, {0, 1277485, 833142, 925714},
            {0, 0, 0, 0}};
        for (int body = 0; body < due.length; body++) {
            for (int n = 0; n < days.length; n++) {
                Check.equal("angle of " + body + " by " + days[n], drive.angle(body, days[n]), due[body][n]);
            }
        }
        for (int wrong : WRONG_BODIES) {
            Check.refuses("body " + wrong, INDEX, () -> drive.angle(wrong, 0));
            Check.refuses("body first", INDEX, () -> drive.angle(wrong, -1));
        }
        for (int wrong : WRONG_DAYS) {
            Check.refuses("day " + wrong, ARGUMENT, () -> drive.angle(0, wrong));
        }
        drive.setSlack(999);
        drive.crank(12346);
        drive.crank(12345);
        Check.isTrue("a lag", drive.lag(0) > 0);
        Check.equal("without backlash", drive.angle(0, 12345), 368181);
    }

    private static void trueAngles() {
        PlanetDrive drive = drive();
        int[] days = {0, 1, 12345, 400000};
        int[][] due = {{0, 14732, 430183, 6040}, {0, 47437, 1123326, 373809}, {0, 1277485, 833142, 925714},
            {0, 0, 0, 0}};
        for (int body = 0; body < due.length; body++) {
            for (int n = 0; n < days.length; n++) {
                Check.equal("true " + body + " by " + days[n], drive.trueAngle(body, days[n]), due[body][n]);
            }
        }
        for (int wrong : WRONG_BODIES) {
            Check.refuses("body " + wrong, INDEX, () -> drive.trueAngle(wrong, 0));
            Check.refuses("body first", INDEX, () -> drive.trueAngle(wrong, -1));
        }
        for (int wrong : WRONG_DAYS) {
            Check.refuses("day " + wrong, ARGUMENT, () -> drive.trueAngle(0, wrong));
        }
    }

    private static void findsTheWorst() {
        PlanetDrive drive = drive();
        Check.equal("in 2000", drive.worst(2000), 1);
        Check.equal("in 2999", drive.worst(2999), 1);
        drive.removePart(2);
        drive.removePart(2);
        Check.equal("a pointer that stands", drive.worst(2000), 2);
        Check.equal("the only one", Check.driveOf("body a period 100;").worst(2000), 0);
        Check.equal("the first one", Check.driveOf("body a period 100;body b period 200;").worst(2000), 0);
        PlanetDrive tied = Check.driveOf("body a period 100;body b period 200;body c period 200 retro;body d period 200;");
        tied.addPart(0, 1, 8, 8);
        Check.equal("the smallest number on a tie", tied.worst(2000), 1);
        Check.equal("without bodies", new PlanetDrive().worst(2000), -1);
        for (int wrong : WRONG_YEARS) {
            Check.refuses("year " + wrong, ARGUMENT, () -> drive.worst(wrong));
            Check.refuses("year without bodies", ARGUMENT, () -> new PlanetDrive().worst(wrong));
        }
    }

    private static void ranks() {
        PlanetDrive drive = drive();
        int[] due = {2, 3, 0, 1};
        for (int rank = 0; rank < due.length; rank++) {
            Check.equal("rank " + rank + " in 2000", drive.ranked(2000, rank), due[rank]);
            Check.equal("rank " + rank + " in 2999", drive.ranked(2999, rank), due[rank]);
        }
        for (int wrong : WRONG_YEARS) {
            Check.refuses("year " + wrong, ARGUMENT, () -> drive.ranked(wrong, 0));
            Check.refuses("year first", ARGUMENT, () -> drive.ranked(wrong, -1));
        }
        for (int wrong : new int[] {-1, 4, 8, Integer.MIN_VALUE, Integer.MAX_VALUE}) {
            Check.refuses("rank " + wrong, ELEMENT, () -> drive.ranked(2000, wrong));
        }
        Check.refuses("without bodies", ELEMENT, () -> new PlanetDrive().ranked(2000, 0));
    }

    private static void findsTheFirstBeyond() {
        PlanetDrive drive = drive();
        Check.equal("above 0", drive.firstBeyond(0, 0), 2000);
        Check.equal("above the first", drive.firstBeyond(0, 1838), 2001);
        Check.equal("not above the first", drive.firstBeyond(0, 1837), 2000);
        Check.equal("above 1000000", drive.firstBeyond(0, 1000000), 2545);
        Check.equal("above the last", drive.firstBeyond(0, 1834386), -1);
        Check.equal("not above the last", drive.firstBeyond(0, 1834385), 2999);
        Check.equal("above 1000000000", drive.firstBeyond(1, 1000000000), 2196);
        Check.equal("no error", drive.firstBeyond(3, 0), -1);
        for (int wrong : WRONG_BODIES) {
            Check.refuses("body " + wrong, INDEX, () -> drive.firstBeyond(wrong, 0));
            Check.refuses("body first", INDEX, () -> drive.firstBeyond(wrong, -1));
        }
        for (int wrong : WRONG_LIMITS) {
            Check.refuses("limit " + wrong, ARGUMENT, () -> drive.firstBeyond(0, wrong));
        }
    }

    private static void sumsErrors() {
        PlanetDrive drive = drive();
        Check.equal("in 2000", drive.totalError(2000), 1838 + 5104052);
        Check.equal("in 2999", drive.totalError(2999), 1834386 + 5093495600L);
        Check.equal("without bodies", new PlanetDrive().totalError(2999), 0);
        for (int wrong : WRONG_YEARS) {
            Check.refuses("year " + wrong, ARGUMENT, () -> drive.totalError(wrong));
        }
    }

    private static void findsTheGrowth() {
        PlanetDrive drive = drive();
        Check.equal("one pair", drive.growth(0, 2000, 2001), 1833);
        Check.equal("all pairs", drive.growth(0, 2000, 2999), 1839);
        Check.equal("no leap year", drive.growth(1, 2000, 2003), 5090107);
        Check.equal("a leap year", drive.growth(1, 2003, 2004), 5104053);
        Check.equal("the last pair", drive.growth(1, 2998, 2999), 5090107);
        Check.equal("none", drive.growth(2, 2000, 2999), 0);
        for (int wrong : WRONG_BODIES) {
            Check.refuses("body " + wrong, INDEX, () -> drive.growth(wrong, 2000, 2001));
            Check.refuses("body first", INDEX, () -> drive.growth(wrong, 1, 0));
        }
        int[][] years = {{2000, 2000}, {2001, 2000}, {1999, 2000}, {2999, 3000}, {Integer.MIN_VALUE, 2001},
            {2000, Integer.MAX_VALUE}, {2000, Integer.MIN_VALUE}, {Integer.MAX_VALUE, 2001}};
        for (int[] pair : years) {
            Check.refuses("from " + pair[0] + " to " + pair[1], ARGUMENT, () -> drive.growth(0, pair[0], pair[1]));
        }
    }

    private static void tellsTheAccuracy() {
        PlanetDrive drive = drive();
        Check.equal("mercury", drive.accuracy(0), (1.0 / 88.0) / (100.0 / 8797.0));
        Check.equal("moon", drive.accuracy(1), (521.0 / 11000.0) / (25.0 / 683.0));
        Check.equal("comet", drive.accuracy(2), 1.0);
        drive.addPart(2, 2, 8, 0);
        Check.equal("comet the wrong way round", drive.accuracy(2), -1.0);
        drive.removePart(3);
        Check.equal("no train", drive.accuracy(3), 0.0);
        for (int wrong : WRONG_BODIES) {
            Check.refuses("body " + wrong, INDEX, () -> drive.accuracy(wrong));
        }
    }

    private static void findsTheWorstYear() {
        PlanetDrive drive = drive();
        Check.equal("one year", drive.worstYear(0, 2000, 2000), 2000);
        Check.equal("all years", drive.worstYear(0, 2000, 2999), 2999);
        Check.equal("some years", drive.worstYear(1, 2500, 2600), 2600);
        Check.equal("the first on a tie", drive.worstYear(2, 2500, 2600), 2500);
        for (int wrong : WRONG_BODIES) {
            Check.refuses("body " + wrong, INDEX, () -> drive.worstYear(wrong, 2000, 2001));
            Check.refuses("body first", INDEX, () -> drive.worstYear(wrong, 1, 0));
        }
        int[][] years = {{2001, 2000}, {1999, 2000}, {2999, 3000}, {Integer.MIN_VALUE, 2001},
            {2000, Integer.MAX_VALUE}, {2000, Integer.MIN_VALUE}, {Integer.MAX_VALUE, 2001}};
        for (int[] pair : years) {
            Check.refuses("from " + pair[0] + " to " + pair[1], ARGUMENT, () -> drive.worstYear(0, pair[0], pair[1]));
        }
    }

    private static void countsRevolutions() {
        PlanetDrive drive = drive();
        int[][] due = {{4, 4150}, {17, 17299}, {-6, -5218}, {366, 365243}};
        for (int body = 0; body < due.length; body++) {
            Check.equal("turns of " + body + " in 2000", drive.revolutions(body, 2000), due[body][0]);
            Check.equal("turns of " + body + " in 2999", drive.revolutions(body, 2999), due[body][1]);
        }
        for (int wrong : WRONG_BODIES) {
            Check.refuses("body " + wrong, INDEX, () -> drive.revolutions(wrong, 2000));
            Check.refuses("body first", INDEX, () -> drive.revolutions(wrong, 0));
        }
        for (int wrong : WRONG_YEARS) {
            Check.refuses("year " + wrong, ARGUMENT, () -> drive.revolutions(0, wrong));
        }
    }

    private static void tellsTheGoodShare() {
        PlanetDrive drive = drive();
        Check.equal("no error", drive.goodShare(2000, 0), 0.5f);
        Check.equal("just below", drive.goodShare(2000, 1837), 0.5f);
        Check.equal("at most", drive.goodShare(2000, 1838), 0.75f);
        Check.equal("all", drive.goodShare(2000, 1000000000), 1.0f);
        Check.equal("not all", drive.goodShare(2999, 1000000000), 0.75f);
        PlanetDrive three = Check.driveOf("body a period 100;body b period 100;body c period 100;");
        three.addPart(1, 1, 8, 8);
        Check.equal("a third", three.goodShare(2000, 5), 1f / 3f);
        Check.equal("without bodies", new PlanetDrive().goodShare(2000, 0), 1f);
        for (int wrong : WRONG_YEARS) {
            Check.refuses("year " + wrong, ARGUMENT, () -> drive.goodShare(wrong, 0));
        }
        for (int wrong : WRONG_LIMITS) {
            Check.refuses("limit " + wrong, ARGUMENT, () -> drive.goodShare(2000, wrong));
            Check.refuses("limit without bodies", ARGUMENT, () -> new PlanetDrive().goodShare(2000, wrong));
        }
    }

    private static void takesEightBodies() {
        StringBuilder text = new StringBuilder();
        for (int body = 0; body < 8; body++) {
            text.append("body ").append((char) ('a' + body)).append(" period ").append(100 * (8 - body)).append(';');
        }
        PlanetDrive drive = Check.driveOf(text.toString());
        // Without trains the error is what should have been made: 1/8 turn a day, 1/7 and so on.
        for (int body = 0; body < 8; body++) {
            Check.equal("rank " + body, drive.ranked(2000, body), body);
            Check.equal("error " + body, drive.errorBy(body, 840), -1296000L * 840 / (8 - body));
        }
        Check.equal("the worst", drive.worst(2000), 7);
        Check.equal("the total", drive.totalError(2000),
                59292000L + 67762285 + 79056000 + 94867200 + 118584000 + 158112000 + 237168000 + 474336000);
        Check.equal("the share", drive.goodShare(2000, 237168000), 0.875f);
        Check.equal("all of them stand", drive.aligned(7, 1, 0), 255);
        Check.refuses("a ninth body", INDEX, () -> drive.errorBy(8, 0));
        Check.equal("teeth of all", drive.count(6), 0);
        Check.equal("uses of all", drive.uses(0), 0);
        Check.equal("cranks them all", drive.crank(9), 0);
        Check.equal("reports them all", drive.report(2000), 100);
    }
}
