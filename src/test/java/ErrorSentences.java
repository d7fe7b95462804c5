import java.util.function.Supplier;

/** The sentences about errors, angles and turns: promises 16 to 24, 41, 45, 46 and 51. */
final class ErrorSentences {
    private static final int DESCRIPTION = Sentence.DESCRIPTION;
    private static final String A_LIMIT = "- `limit`: a limit, 0 to 1000000000";
    // Without trains: the error is what should have been made, the other way round.
    private static final String SEVENTHS = "body a period 700;body b period 700 retro;";
    private static final String POINTERS = "body a period 700;body b period 700 retro;body c period 700;"
            + "train a ring 10 70;train b gear 10 70;train c ring 100 8 ring 100 8;";
    private static final String EIGHTHS = "body a period 800;body b period 800 retro;body c period 800;"
            + "body d period 800 retro;body e period 800;body f period 800 retro;body g period 800;"
            + "body h period 800 retro;";
    // -1/9702 turn a day where -100/970201 and -100/970199 are due: 50 arcseconds in a thousand years.
    private static final String SLOW = "body c period 100;body a period 970201 retro on c;"
            + "body b period 970199 retro on c;train c ring 97 98;train a gear 98 99;train b gear 98 99;";

    private ErrorSentences() {
    }

    static void all() {
        errorsByDays();
        errorsByYears();
        angles();
        trueAngles();
        worst();
        ranked();
        firstBeyond();
        totals();
        growth();
        accuracy();
        worstYears();
        revolutions();
        goodShare();
    }

    private static void errorsByDays() {
        Sentence.of(16, Sentence.NO_BODY).holds(() -> Refusal.bodies((drive, body) -> drive.errorBy(body, 400000)));
        Sentence.of(16, Sentence.A_DAY, Sentence.NO_DAY).holds(
                () -> Refusal.within(0, 400000, (drive, day) -> drive.errorBy(0, day)));
        Sentence.of(DESCRIPTION, "The error by a day is the turns of the pointer minus those that it should have made,"
                + " in arcseconds (1296000 to a turn), truncated toward zero.").holds(() -> {
            PlanetDrive drive = Check.driveOf(SEVENTHS);
            int[] days = {0, 1, 2, 6, 7, 8, 400000};
            long[] due = {0, -185142, -370285, -1110857, -1296000, -1481142, -74057142857L};
            for (int n = 0; n < days.length; n++) {
                Check.equal("too slow by day " + days[n], drive.errorBy(0, days[n]), due[n]);
                Check.equal("too fast by day " + days[n], drive.errorBy(1, days[n]), -due[n]);
            }
            PlanetDrive small = Check.driveOf("body a period 9999999;body b period 9999999 retro;");
            Check.equal("12.96 arcseconds", small.errorBy(0, 1), -12);
            Check.equal("12.96 arcseconds the other way round", small.errorBy(1, 1), 12);
            PlanetDrive slow = Check.driveOf(SLOW);
            for (int body = 1; body <= 2; body++) {
                Check.equal("less than an arcsecond in a year", slow.errorBy(body, 366), 0);
                Check.equal("50.2 arcseconds", slow.errorBy(body, 365243), body == 1 ? -50 : 50);
            }
        });
        Sentence.of(DESCRIPTION, "The turns of a pointer by a day d, and those that it should have made, are d times"
                + " these numbers, as exact fractions.").holds(() -> {
            // 97 * 89 / (89 * 83) on 8 / 97 * 8 / 89; the drift has a denominator near 10^15.
            PlanetDrive drive = Check.driveOf("body a period 9999991;body b period 9999973 retro on a;"
                    + "train a gear 8 97 gear 8 89;train b gear 97 79 gear 89 83;");
            long bottom = 97L * 89 * 79 * 83;
            long top = 64L * 79 * 83 + 97L * 89 * 97 * 89;
            for (int day : new int[] {1, 2, 3, 99991, 365243, 399999, 400000}) {
                Check.equal("error by " + day, drive.errorBy(1, day),
                        Exact.truncated(top * 9999973 + 100 * bottom, bottom * 9999973, day));
                Check.equal("angle by " + day, drive.angle(1, day),
                        Math.floorMod(Exact.floored(top, bottom, day), 1296000));
            }
            PlanetDrive greatest = Check.driveOf("body a period 100;body b period 100 retro on a;"
                    + "train a ring 100 8 ring 100 8;train b ring 100 8 ring 100 8;");
            Check.equal("the greatest of all", greatest.errorBy(1, 400000), 162518400000000L);
            PlanetDrive least = Check.driveOf("body a period 100;body b period 100 on a;"
                    + "train a ring 100 8 gear 100 8;train b gear 100 8 ring 100 8;");
            Check.equal("the least of all", least.errorBy(1, 400000), -162518400000000L);
        });
        Sentence.of(DESCRIPTION, "A body should make 100 / period turns a day, negative if it is retro.",
                "The pointer of a body makes as many turns a day as its ratio says.").holds(() -> {
            PlanetDrive drive = Check.driveOf("body a period 100;body b period 100 retro;body c period 9999999;"
                    + "train a ring 8 8;train b gear 8 8;");
            Check.equal("a turn a day", drive.errorBy(0, 400000), 0);
            Check.equal("a turn a day the other way round", drive.errorBy(1, 400000), 0);
            Check.equal("hardly a turn", drive.errorBy(2, 99999), -1295987);
            Check.equal("a turn", drive.errorBy(2, 100000), -1296000);
        });
    }

    private static void errorsByYears() {
        Sentence.of(17, Sentence.NO_BODY).holds(() -> Refusal.bodies((drive, body) -> drive.error(body, 2400)));
        Sentence.of(17, Sentence.A_YEAR, Sentence.NO_YEAR).holds(
                () -> Refusal.years((drive, year) -> drive.error(0, year)));
        Sentence.of(17, "Returns the error of a pointer at the end of a year.").holds(() -> {
            PlanetDrive drive = Check.driveOf(SEVENTHS);
            for (int year : new int[] {2000, 2001, 2003, 2004, 2100, 2998, 2999}) {
                long due = Exact.truncated(-1, 7, Exact.endOf(2000, year));
                Check.equal("too slow in " + year, drive.error(0, year), due);
                Check.equal("too fast in " + year, drive.error(1, year), -due);
                Check.equal("by its last day in " + year, drive.errorBy(0, drive.endOf(year)), due);
            }
        });
    }

    private static void angles() {
        Sentence.of(18, Sentence.NO_BODY).holds(() -> Refusal.bodies((drive, body) -> drive.angle(body, 400000)));
        Sentence.of(18, Sentence.A_DAY, Sentence.NO_DAY).holds(
                () -> Refusal.within(0, 400000, (drive, day) -> drive.angle(0, day)));
        Sentence.of(DESCRIPTION, "An angle by a day is the fraction of the turns above the next lower whole number, in"
                + " arcseconds, rounded down: 0 to 1295999.").holds(() -> {
            PlanetDrive drive = Check.driveOf(POINTERS);
            int[] days = {0, 1, 2, 6, 7, 8};
            int[] forward = {0, 185142, 370285, 1110857, 0, 185142};
            int[] backward = {0, 1110857, 925714, 185142, 0, 1110857};
            for (int n = 0; n < days.length; n++) {
                Check.equal("angle forward by " + days[n], drive.angle(0, days[n]), forward[n]);
                Check.equal("angle backward by " + days[n], drive.angle(1, days[n]), backward[n]);
                Check.equal("true angle forward by " + days[n], drive.trueAngle(0, days[n]), forward[n]);
                Check.equal("true angle backward by " + days[n], drive.trueAngle(1, days[n]), backward[n]);
            }
            PlanetDrive small = Check.driveOf("body a period 9999999;body b period 9999999 retro;");
            // 100 * 100000 is one more than the period.
            Check.equal("just above a turn", small.trueAngle(0, 100000), 0);
            Check.equal("just below a turn back", small.trueAngle(1, 100000), 1295999);
            Check.equal("just below a turn", small.trueAngle(0, 99999), 1295987);
            Check.equal("just above a turn back", small.trueAngle(1, 99999), 12);
        });
        Sentence.of(18, "Returns the angle of a pointer by a day, without backlash.").holds(() -> {
            PlanetDrive drive = Check.driveOf(POINTERS + "slack 999;");
            drive.crank(2);
            drive.crank(1);
            Check.equal("lag forward", drive.lag(0), 999);
            Check.equal("angle forward", drive.angle(0, 1), 185142);
            Check.equal("turns in half a day", drive.angle(2, 1), 324000);
            Check.equal("the last day", drive.angle(2, 399999), 972000);
        });
    }

    private static void trueAngles() {
        Sentence.of(19, Sentence.NO_BODY).holds(() -> Refusal.bodies((drive, body) -> drive.trueAngle(body, 0)));
        Sentence.of(19, Sentence.A_DAY, Sentence.NO_DAY).holds(
                () -> Refusal.within(0, 400000, (drive, day) -> drive.trueAngle(0, day)));
        Sentence.of(19, "Returns the angle that a body should have by a day.").holds(() -> {
            PlanetDrive drive = Check.driveOf("body a period 100;body b period 700 retro on a;");
            Check.equal("a turn a day", drive.trueAngle(0, 400000), 0);
            // A seventh of a turn back is due, whatever its carrier should make.
            Check.equal("on a carrier", drive.trueAngle(1, 1), 1110857);
            Check.equal("the last day", drive.trueAngle(1, 400000), 185142);
        });
    }

    private static void worst() {
        Sentence.of(20, Sentence.A_YEAR, Sentence.NO_YEAR).holds(() -> {
            Refusal.years(PlanetDrive::worst);
            Refusal.range(Drives::fresh, 2000, 2999, Refusal.ARGUMENT, PlanetDrive::worst);
        });
        Sentence.of(20, "Returns number of the body, the smallest one on a tie; -1 without bodies.").holds(() -> {
            Check.equal("without bodies", new PlanetDrive().worst(2000), -1);
            Check.equal("one body", Check.driveOf("body a period 800;").worst(2999), 0);
            PlanetDrive drive = Check.driveOf(EIGHTHS);
            Check.equal("8 on a tie", drive.worst(2000), 0);
            for (int body = 0; body < 7; body++) {
                drive.addPart(body, body % 2, 10, 80);
                drive.addPart(body, 2, 10, 0);
                Check.equal("no error of " + body, drive.error(body, 2000), 0);
                Check.equal("the next one", drive.worst(2000), body + 1);
            }
            drive.addPart(7, 0, 10, 80);
            Check.equal("8 without error", drive.worst(2000), 0);
        });
        Sentence.of(20, "Returns the body with the greatest error (as an absolute value) at the end of a year.")
                .holds(() -> {
                    PlanetDrive drive = Check.driveOf("body a period 800;body b period 799 retro;body c period 800;");
                    Check.equal("too fast", drive.worst(2999), 1);
                    Check.load(drive, "body a period 800 retro;body b period 799;body c period 800 retro;");
                    Check.equal("too slow", drive.worst(2999), 1);
                });
    }

    private static void ranked() {
        Sentence.of(21, Sentence.A_YEAR, Sentence.NO_YEAR).holds(
                () -> Refusal.years((drive, year) -> drive.ranked(year, 2)));
        Sentence.of(21, "Throws `NoSuchElementException` if there are not so many bodies").holds(() -> {
            for (int rank : new int[] {0, 1, -1, Integer.MIN_VALUE, Integer.MAX_VALUE}) {
                Refusal.refuses("rank " + rank + " of none", Drives::fresh, Refusal.ELEMENT,
                        drive -> drive.ranked(2000, rank));
            }
            Refusal.range(Drives::rich, 0, 3, Refusal.ELEMENT, (drive, rank) -> drive.ranked(1996, rank));
            Refusal.range(Drives::full, 0, 7, Refusal.ELEMENT, (drive, rank) -> drive.ranked(3399, rank));
        });
        Sentence.of(21, "- `rank`: place in the order, from 0: smaller errors first, of equal ones the smaller number")
                .holds(() -> {
                    PlanetDrive tied = Check.driveOf(EIGHTHS);
                    PlanetDrive falling = Check.driveOf(EIGHTHS);
                    for (int body = 0; body < 8; body++) {
                        Check.equal("of equal ones " + body, tied.ranked(2999, body), body);
                    }
                    falling.addPart(5, 0, 10, 80);
                    falling.addPart(7, 0, 10, 81);
                    falling.addPart(2, 0, 10, 81);
                    int[] due = {5, 7, 0, 1, 3, 4, 6, 2};
                    for (int rank = 0; rank < 8; rank++) {
                        Check.equal("rank " + rank, falling.ranked(2999, rank), due[rank]);
                    }
                });
    }

    private static void firstBeyond() {
        Sentence.of(22, Sentence.NO_BODY).holds(() -> Refusal.bodies((drive, body) -> drive.firstBeyond(body, 0)));
        Sentence.of(22, A_LIMIT, "Throws `IllegalArgumentException` if limit is out of range").holds(
                () -> Refusal.within(0, 1000000000, (drive, limit) -> drive.firstBeyond(0, limit)));
        Sentence.of(22, "Finds the first year at whose end the error of a pointer (as an absolute value) is greater"
                + " than a limit.").holds(() -> {
            // Half a turn a day, either way.
            PlanetDrive drive = Check.driveOf("body a period 200;body b period 200 retro;");
            for (int body = 0; body < 2; body++) {
                Check.equal("above 0", drive.firstBeyond(body, 0), 2000);
                Check.equal("just greater", drive.firstBeyond(body, 366 * 648000 - 1), 2000);
                Check.equal("not greater", drive.firstBeyond(body, 366 * 648000), 2001);
                Check.equal("the greatest limit", drive.firstBeyond(body, 1000000000), 2004);
            }
        });
        Sentence.of(22, "Returns the year; -1 if there is none.").holds(() -> {
            PlanetDrive drive = Check.driveOf("body a period 9999999;body b period 9999999 retro;body c period 100;"
                    + "train c ring 9 9;");
            int before = (int) Exact.truncated(100, 9999999, Exact.endOf(2000, 2998));
            int last = (int) Exact.truncated(100, 9999999, Exact.endOf(2000, 2999));
            for (int body = 0; body < 2; body++) {
                Check.equal("the last year but one", drive.firstBeyond(body, before - 1), 2998);
                Check.equal("the last year", drive.firstBeyond(body, before), 2999);
                Check.equal("still the last year", drive.firstBeyond(body, last - 1), 2999);
                Check.equal("none", drive.firstBeyond(body, last), -1);
                Check.equal("none by far", drive.firstBeyond(body, 1000000000), -1);
            }
            Check.equal("no error", drive.firstBeyond(2, 0), -1);
            PlanetDrive slow = Check.driveOf(SLOW);
            for (int body = 1; body <= 2; body++) {
                int year = slow.firstBeyond(body, 49);
                Check.equal("truncated to the limit", Math.abs(slowError(body, year - 1)), 49);
                Check.equal("beyond the limit", Math.abs(slowError(body, year)), 50);
                Check.equal("never beyond 50", slow.firstBeyond(body, 50), -1);
            }
        });
    }

    private static void totals() {
        Sentence.of(23, Sentence.A_YEAR, Sentence.NO_YEAR).holds(() -> {
            Refusal.years(PlanetDrive::totalError);
            Refusal.range(Drives::fresh, 2000, 2999, Refusal.ARGUMENT, PlanetDrive::totalError);
        });
        Sentence.of(23, "Returns the sum of the errors (as absolute values) of all pointers at the end of a year.")
                .holds(() -> {
                    Check.equal("without bodies", new PlanetDrive().totalError(2999), 0);
                    PlanetDrive drive = Check.driveOf(SEVENTHS);
                    // Each is truncated by itself.
                    Check.equal("both signs", drive.totalError(2000), 2 * 67762285);
                    Check.equal("8 bodies", Check.driveOf(EIGHTHS).totalError(2999), 8 * 365243L * 162000);
                });
    }

    private static void growth() {
        Sentence.of(24, Sentence.NO_BODY).holds(() -> Refusal.bodies((drive, body) -> drive.growth(body, 2400, 2401)));
        Sentence.of(24, "Throws `IllegalArgumentException` if one of the years is out of range or to is not later than"
                + " from", "- `from`: a year", "- `to`: a later year").holds(() -> {
            for (int start : new int[] {1600, 2000, 2400}) {
                Supplier<PlanetDrive> made = () -> Drives.startingIn(start);
                Refusal.range(made, start, start + 998, Refusal.ARGUMENT,
                        (drive, from) -> drive.growth(0, from, start + 999));
                Refusal.range(made, start + 1, start + 999, Refusal.ARGUMENT,
                        (drive, to) -> drive.growth(0, start, to));
                Refusal.refuses("the same year", made, Refusal.ARGUMENT,
                        drive -> drive.growth(0, start + 5, start + 5));
                Refusal.refuses("the year before", made, Refusal.ARGUMENT,
                        drive -> drive.growth(0, start + 5, start + 4));
                Refusal.refuses("from before start", made, Refusal.ARGUMENT,
                        drive -> drive.growth(0, start - 1, start + 1));
                Refusal.refuses("to behind the last", made, Refusal.ARGUMENT,
                        drive -> drive.growth(0, start + 1, start + 1000));
                Refusal.takes("the year behind", made, drive -> drive.growth(0, start + 5, start + 6));
            }
        });
        Sentence.of(24, "Returns the greatest growth of the error in a year: the greatest absolute value of the"
                + " difference of the errors at the ends of two years that follow each other, from one year to another"
                + " one.").holds(() -> {
            PlanetDrive drive = Check.driveOf(SEVENTHS + "body c period 100;train c ring 8 8;");
            for (int[] years : new int[][] {{2000, 2001}, {2001, 2003}, {2003, 2004}, {2004, 2007}, {2998, 2999},
                {2096, 2103}, {2000, 2999}}) {
                long due = 0;
                for (int year = years[0]; year < years[1]; year++) {
                    due = Math.max(due, Exact.truncated(1, 7, Exact.endOf(2000, year + 1))
                            - Exact.truncated(1, 7, Exact.endOf(2000, year)));
                }
                Check.equal("too slow from " + years[0], drive.growth(0, years[0], years[1]), due);
                Check.equal("too fast from " + years[0], drive.growth(1, years[0], years[1]), due);
                Check.equal("no error from " + years[0], drive.growth(2, years[0], years[1]), 0);
            }
            PlanetDrive slow = Check.driveOf(SLOW);
            for (int body = 1; body <= 2; body++) {
                Check.equal("no growth in the first years", slow.growth(body, 2000, 2010), 0);
                Check.equal("an arcsecond at a time", slow.growth(body, 2000, 2999), 1);
            }
        });
    }

    private static void accuracy() {
        Sentence.of(41, Sentence.NO_BODY).holds(() -> Refusal.bodies(PlanetDrive::accuracy));
        Sentence.of(41, "Returns the accuracy of a pointer: the ratio of the body divided by what it should make a day,"
                + " both numerators and denominators in lowest terms, each quotient computed in double, then their"
                + " quotient.").holds(() -> {
            PlanetDrive drive = Check.driveOf("body a period 300;body b period 300 retro;body c period 9999999;"
                    + "body d period 300 retro;train a ring 10 98;train b ring 10 98;train c ring 100 8 ring 100 8;"
                    + "train d gear 8 8;");
            Check.equal("less than due", drive.accuracy(0), (5.0 / 49.0) / (1.0 / 3.0));
            Check.equal("the wrong way round", drive.accuracy(1), (5.0 / 49.0) / (-1.0 / 3.0));
            Check.equal("far more than due", drive.accuracy(2), (625.0 / 4.0) / (100.0 / 9999999.0));
            Check.equal("both backward", drive.accuracy(3), (-1.0 / 1.0) / (-1.0 / 3.0));
            drive.removePart(0);
            Check.isTrue("without a train", drive.accuracy(0) == 0.0);
        });
    }

    private static void worstYears() {
        Sentence.of(45, Sentence.NO_BODY).holds(
                () -> Refusal.bodies((drive, body) -> drive.worstYear(body, 2400, 2400)));
        Sentence.of(45, "Throws `IllegalArgumentException` if one of the years is out of range or to is earlier than"
                + " from", "- `from`: a year", "- `to`: a year, not earlier").holds(() -> {
            Refusal.years((drive, from) -> drive.worstYear(0, from, drive.count(2) + 999));
            Refusal.years((drive, to) -> drive.worstYear(0, drive.count(2), to));
            Supplier<PlanetDrive> made = () -> Drives.startingIn(2000);
            Refusal.takes("the same year", made, drive -> drive.worstYear(0, 2500, 2500));
            Refusal.refuses("the year before", made, Refusal.ARGUMENT, drive -> drive.worstYear(0, 2500, 2499));
            Refusal.refuses("the other way round", made, Refusal.ARGUMENT, drive -> drive.worstYear(0, 2999, 2000));
        });
        Sentence.of(45, "Returns the year, the first one on a tie.", "Finds the year at whose end the error of a"
                + " pointer is the greatest (as an absolute value), from one year to another one.").holds(() -> {
            PlanetDrive drive = Check.driveOf("body a period 700;body b period 700 retro;body c period 100;"
                    + "train c ring 8 8;");
            for (int body = 0; body < 2; body++) {
                Check.equal("all years", drive.worstYear(body, 2000, 2999), 2999);
                Check.equal("one year", drive.worstYear(body, 2500, 2500), 2500);
                Check.equal("two years", drive.worstYear(body, 2500, 2501), 2501);
            }
            Check.equal("a tie of all", drive.worstYear(2, 2000, 2999), 2000);
            Check.equal("a tie of some", drive.worstYear(2, 2998, 2999), 2998);
            // Here some twenty years share an error.
            PlanetDrive slow = Check.driveOf(SLOW);
            for (int body = 1; body <= 2; body++) {
                for (int last : new int[] {2005, 2100, 2500, 2999}) {
                    Check.equal("a tie by truncation", slow.worstYear(body, 2000, last), firstOfTheLast(body, last));
                }
            }
        });
    }

    private static long slowError(int body, int year) {
        return Exact.truncated(body == 1 ? -1 : 1, 9702L * (body == 1 ? 970201 : 970199), Exact.endOf(2000, year));
    }

    /** The first year with the error that the last year has. */
    private static int firstOfTheLast(int body, int last) {
        int year = 2000;
        while (slowError(body, year) != slowError(body, last)) {
            year++;
        }
        return year;
    }

    private static void revolutions() {
        Sentence.of(46, Sentence.NO_BODY).holds(() -> Refusal.bodies((drive, body) -> drive.revolutions(body, 2400)));
        Sentence.of(46, Sentence.A_YEAR, Sentence.NO_YEAR).holds(
                () -> Refusal.years((drive, year) -> drive.revolutions(0, year)));
        Sentence.of(46, "Returns the whole turns of a pointer by the end of a year, rounded down (toward negative"
                + " infinity).").holds(() -> {
            // 366 days are 52 sevenths and 2 days; 366 / 61 is 6, 731 / 61 is not whole.
            PlanetDrive drive = Check.driveOf(POINTERS + "body d period 100;body e period 100;body f period 100;"
                    + "train d ring 10 61;train e gear 10 61;");
            Check.equal("forward", drive.revolutions(0, 2000), 52);
            Check.equal("backward", drive.revolutions(1, 2000), -53);
            Check.equal("whole forward", drive.revolutions(3, 2000), 60);
            Check.equal("whole backward", drive.revolutions(4, 2000), -60);
            Check.equal("above whole", drive.revolutions(3, 2001), 119);
            Check.equal("above whole backward", drive.revolutions(4, 2001), -120);
            Check.equal("the last year", drive.revolutions(0, 2999), 52177);
            Check.equal("the last year backward", drive.revolutions(1, 2999), -52178);
            Check.equal("many turns", drive.revolutions(2, 2999), 57069218);
            Check.equal("no turns", drive.revolutions(5, 2999), 0);
        });
    }

    private static void goodShare() {
        Sentence.of(51, Sentence.A_YEAR, A_LIMIT, "Throws `IllegalArgumentException` if year or limit is out of range")
                .holds(() -> {
                    Refusal.years((drive, year) -> drive.goodShare(year, 0));
                    Refusal.within(0, 1000000000, (drive, limit) -> drive.goodShare(2400, limit));
                    Refusal.range(Drives::fresh, 2000, 2999, Refusal.ARGUMENT,
                            (drive, year) -> drive.goodShare(year, 0));
                    Refusal.range(Drives::fresh, 0, 1000000000, Refusal.ARGUMENT,
                            (drive, limit) -> drive.goodShare(2000, limit));
                });
        Sentence.of(51, "Returns the share; 1 without bodies.").holds(() -> {
            Check.equal("without bodies", new PlanetDrive().goodShare(2000, 0), 1f);
            Check.equal("none of 8", Check.driveOf(EIGHTHS).goodShare(2000, 0), 0f);
            Check.equal("all of 8", Check.driveOf(EIGHTHS).goodShare(2000, 1000000000), 1f);
        });
        Sentence.of(51, "Returns the share of the bodies whose error at the end of a year (as an absolute value) is at"
                + " most a limit: their number divided by that of all bodies, both converted to float.").holds(() -> {
            PlanetDrive drive = Check.driveOf(SEVENTHS + "body c period 100;train c ring 8 8;");
            Check.equal("no error", drive.goodShare(2000, 0), 1f / 3f);
            Check.equal("above the limit", drive.goodShare(2000, 67762284), 1f / 3f);
            Check.equal("at the limit, both signs", drive.goodShare(2000, 67762285), 1f);
            Check.equal("above the greatest limit", drive.goodShare(2999, 1000000000), 1f / 3f);
        });
    }
}
