import java.time.LocalDate;
import java.time.Year;
import java.time.temporal.ChronoUnit;

/** The sentences about the numbers of the drive, its bodies, parts and stock: promises 7 to 15, 39, 47, 50. */
final class DriveSentences {
    private static final int DESCRIPTION = Sentence.DESCRIPTION;
    private static final int[] STARTS = {1600, 1601, 1696, 1699, 1700, 1897, 1999, 2000, 2001, 2004, 2100, 2399, 2400};
    private static final int[] FAR = {-1, Integer.MIN_VALUE, Integer.MAX_VALUE};

    private DriveSentences() {
    }

    static void all() {
        counts();
        bodies();
        parts();
        stock();
        ratios();
        days();
        ends();
        years();
        leapYears();
        missing();
        uses();
    }

    private static void counts() {
        Sentence.of(7, Sentence.NO_WHAT, "- `what`: 0 the bodies, 1 the numbers of the stock, 2 the start year, 3 the"
                + " slack, 4 the day at which the crank stands, 5 the changes that can be undone, 6 the teeth of all"
                + " trains together").holds(() -> {
            Refusal.range(Drives::fresh, 0, 6, Refusal.ARGUMENT, PlanetDrive::count);
            Refusal.within(0, 6, PlanetDrive::count);
        });
        Sentence.of(7, "Returns a number of the drive.").holds(() -> {
            // Teeth: 85 of sun (30 of 10 20, 55 of 30 25), 31 of moon, none of io, 50 of pan.
            int[][] due = {{0, 0, 2000, 60, 0, 0, 0}, {4, 4, 1996, 30, 400, 3, 85 + 31 + 50},
                {8, 16, 2400, 999, 399988, 12, 39 + 63 + 38 + 416 + 232 + 160 + 369 + 80}};
            PlanetDrive[] drives = {Drives.fresh(), Drives.rich(), Drives.full()};
            for (int n = 0; n < drives.length; n++) {
                for (int what = 0; what <= 6; what++) {
                    Check.equal("drive " + n + " count " + what, drives[n].count(what), due[n][what]);
                }
            }
            PlanetDrive widest = Check.driveOf("body a period 100;"
                    + "train a gear 100 100 idler 100 ring 100 100 idler 100;");
            Check.equal("the most teeth of a train", widest.count(6), 600);
        });
    }

    private static void bodies() {
        Sentence.of(8, Sentence.NO_BODY).holds(() -> Refusal.bodies((drive, body) -> drive.body(body, 5)));
        Sentence.of(8, Sentence.NO_WHAT).holds(() -> Refusal.within(0, 5, (drive, what) -> drive.body(0, what)));
        Sentence.of(8, "- `what`: 0 its period, 1 whether it is retro (1 or 0), 2 its carrier (-1 if it is on none), 3"
                + " the number of parts of its train, 4 the teeth of its train together, 5 its meshes").holds(() -> {
            PlanetDrive drive = Drives.full();
            int[][] due = {{100, 0, -1, 2, 39, 3}, {9999999, 1, -1, 4, 63, 6}, {36525, 0, 0, 4, 38, 8},
                {2732, 1, 1, 4, 416, 6}, {300, 0, 0, 4, 232, 6}, {8797, 0, -1, 4, 160, 6}, {225, 0, -1, 4, 369, 6},
                {700, 1, 6, 1, 80, 1}};
            for (int body = 0; body < due.length; body++) {
                for (int what = 0; what < 6; what++) {
                    Check.equal("body " + body + " what " + what, drive.body(body, what), due[body][what]);
                }
            }
            int[] without = {36525, 0, -1, 0, 0, 0};
            for (int what = 0; what < 6; what++) {
                Check.equal("without a train " + what, Drives.rich().body(2, what), without[what]);
            }
        });
    }

    private static void parts() {
        Sentence.of(9, Sentence.NO_BODY).holds(() -> {
            Refusal.range(Drives::full, 0, 7, Refusal.INDEX, (drive, body) -> drive.part(body, 0, 0));
            Refusal.refuses("no bodies", Drives::fresh, Refusal.INDEX, drive -> drive.part(0, 0, 0));
            Refusal.takes("the last of some", Drives::rich, drive -> drive.part(3, 0, 0));
            Refusal.refuses("behind the last of some", Drives::rich, Refusal.INDEX, drive -> drive.part(4, 0, 0));
        });
        Sentence.of(9, "Throws `NoSuchElementException` if there is no such part", "- `part`: number of the part, from"
                + " 0").holds(() -> {
            Refusal.range(Drives::full, 0, 3, Refusal.ELEMENT, (drive, part) -> drive.part(2, part, 2));
            Refusal.range(Drives::full, 0, 1, Refusal.ELEMENT, (drive, part) -> drive.part(0, part, 2));
            Refusal.range(Drives::full, 0, 0, Refusal.ELEMENT, (drive, part) -> drive.part(7, part, 2));
            for (int part : new int[] {0, -1, 1, 4, Integer.MAX_VALUE}) {
                Refusal.refuses("part " + part + " of no train", Drives::rich, Refusal.ELEMENT,
                        drive -> drive.part(2, part, 0));
            }
        });
        Sentence.of(9, Sentence.NO_WHAT).holds(() -> {
            Refusal.range(Drives::full, 0, 2, Refusal.ARGUMENT, (drive, what) -> drive.part(2, 3, what));
            Refusal.range(Drives::rich, 0, 2, Refusal.ARGUMENT, (drive, what) -> drive.part(0, 0, what));
        });
        Sentence.of(9, "- `what`: 0 its kind (0 gear, 1 ring, 2 idler), 1 the teeth of the driver or of the idler, 2"
                + " the teeth of the driven gear (0 for an idler)").holds(() -> {
            PlanetDrive drive = Drives.full();
            int[][] due = {{0, 8, 9}, {2, 10, 0}, {1, 11, 12}, {2, 13, 0}};
            for (int part = 0; part < due.length; part++) {
                for (int what = 0; what < 3; what++) {
                    Check.equal("part " + part + " what " + what, drive.part(1, part, what), due[part][what]);
                }
            }
        });
    }

    private static void stock() {
        Sentence.of(10, "Throws `NoSuchElementException` if there are not so many", "- `index`: place in the order,"
                + " from 0").holds(() -> {
            for (int index : new int[] {0, 1, 16, -1, Integer.MIN_VALUE, Integer.MAX_VALUE}) {
                Refusal.refuses("place " + index + " of none", Drives::fresh, Refusal.ELEMENT,
                        drive -> drive.stock(index));
            }
            Refusal.range(Drives::rich, 0, 3, Refusal.ELEMENT, PlanetDrive::stock);
            Refusal.range(Drives::full, 0, 15, Refusal.ELEMENT, PlanetDrive::stock);
            Refusal.range(() -> Check.driveOf("stock 50;"), 0, 0, Refusal.ELEMENT, PlanetDrive::stock);
        });
        Sentence.of(10, "Returns the stock number at a place of the ascending order.").holds(() -> {
            PlanetDrive drive = Check.driveOf("stock 100 8 99 9 98 10 97 11 96 12 95 13 94 14 93 15;");
            int[] due = {8, 9, 10, 11, 12, 13, 14, 15, 93, 94, 95, 96, 97, 98, 99, 100};
            for (int index = 0; index < due.length; index++) {
                Check.equal("place " + index, drive.stock(index), due[index]);
            }
            drive.removeStock(8);
            Check.equal("the first then", drive.stock(0), 9);
            drive.addStock(8);
            Check.equal("the first again", drive.stock(0), 8);
        });
    }

    private static void ratio(PlanetDrive drive, int body, long top, long bottom) {
        Check.equal("numerator of " + body, drive.numerator(body), top);
        Check.equal("denominator of " + body, drive.denominator(body), bottom);
    }

    private static void ratios() {
        Sentence.of(11, Sentence.NO_BODY).holds(() -> Refusal.bodies(PlanetDrive::numerator));
        Sentence.of(12, Sentence.NO_BODY).holds(() -> Refusal.bodies(PlanetDrive::denominator));
        Sentence.of(11, "Returns the numerator, with the sign; 0 if the ratio is 0.").holds(() -> {
            PlanetDrive drive = Check.driveOf("body a period 100;body b period 100 on a;body c period 100 on a;"
                    + "body d period 100;train a ring 10 20;train b gear 15 30;train c gear 60 20;");
            ratio(drive, 0, 1, 2);
            ratio(drive, 1, 0, 1);
            ratio(drive, 2, -5, 2);
            ratio(drive, 3, 0, 1);
        });
        Sentence.of(12, "Returns the denominator, 1 or greater.", "Returns the denominator of the ratio of a body in"
                + " lowest terms.").holds(() -> {
            PlanetDrive drive = Check.driveOf("body a period 100;body b period 100 on a;body c period 100;"
                    + "body d period 100 on c;train a gear 100 8 gear 100 8;train b ring 100 8 ring 100 8;"
                    + "train c gear 8 97 ring 8 89;train d gear 8 83 gear 8 79;");
            ratio(drive, 0, 625, 4);
            ratio(drive, 1, 625, 2);
            ratio(drive, 2, -64, 8633);
            // -64/8633 + 64/6557.
            ratio(drive, 3, 64L * (8633 - 6557), 8633L * 6557);
        });
        Sentence.of(DESCRIPTION, "A part \"gear A B\" (A is the driver) has the ratio A / B and turns the other way"
                + " round; a part \"ring A B\" has the ratio A / B and keeps the direction; an idler turns the other"
                + " way round.").holds(() -> {
            PlanetDrive drive = Check.driveOf("body a period 100;");
            drive.addPart(0, 0, 8, 100);
            ratio(drive, 0, -2, 25);
            drive.removePart(0);
            drive.addPart(0, 1, 8, 100);
            ratio(drive, 0, 2, 25);
            drive.removePart(0);
            drive.addPart(0, 2, 8, 0);
            ratio(drive, 0, -1, 1);
        });
        Sentence.of(DESCRIPTION, "The own ratio of a body is the product of the ratios of its parts, negative if it has"
                + " an odd number of parts that turn the other way round; it is 0 without a train.").holds(() -> {
            PlanetDrive drive = Check.driveOf("body a period 100;");
            ratio(drive, 0, 0, 1);
            for (int idlers = 1; idlers <= 4; idlers++) {
                drive.addPart(0, 2, 8, 0);
                ratio(drive, 0, idlers % 2 == 0 ? 1 : -1, 1);
            }
            for (int parts = 4; parts > 0; parts--) {
                drive.removePart(0);
            }
            ratio(drive, 0, 0, 1);
            drive.addPart(0, 0, 10, 20);
            drive.addPart(0, 2, 8, 0);
            ratio(drive, 0, 1, 2);
            drive.addPart(0, 0, 10, 30);
            ratio(drive, 0, -1, 6);
            drive.addPart(0, 2, 100, 0);
            ratio(drive, 0, 1, 6);
        });
        Sentence.of(DESCRIPTION, "The ratio of a body is its own ratio, plus that of its carrier if it has one.")
                .holds(() -> {
                    PlanetDrive drive = Check.driveOf("body a period 100;body b period 100 on a;body c period 100 on a;"
                            + "train b ring 10 30;");
                    ratio(drive, 1, 1, 3);
                    ratio(drive, 2, 0, 1);
                    drive.addPart(0, 0, 10, 20);
                    ratio(drive, 0, -1, 2);
                    ratio(drive, 1, -1, 6);
                    ratio(drive, 2, -1, 2);
                });
    }

    // ---- days and years ----

    private static int[] yearsFrom(int start) {
        return new int[] {start, start + 1, start + 2, start + 3, start + 4, start + 99, start + 100, start + 101,
            start + 399, start + 400, start + 401, start + 998, start + 999};
    }

    private static void days() {
        Sentence.of(13, Sentence.A_YEAR, Sentence.NO_YEAR).holds(() -> Refusal.years(PlanetDrive::daysOf));
        Sentence.of(13, "Returns 365 or 366.").holds(() -> {
            for (int start : STARTS) {
                PlanetDrive drive = Check.driveOf("start " + start + ";");
                for (int year : yearsFrom(start)) {
                    Check.equal("days of " + year, drive.daysOf(year), Year.of(year).length());
                }
            }
        });
        Sentence.of(DESCRIPTION, "A year has 366 days if its number is divisible by 4 but not by 100, or by 400;"
                + " otherwise 365.").holds(() -> {
            PlanetDrive drive = Check.driveOf("start 1600;");
            int[] leap = {1600, 1604, 1696, 1704, 1996, 2000, 2004, 2400, 2596};
            int[] common = {1601, 1602, 1603, 1699, 1700, 1800, 1900, 2100, 2200, 2300, 2500, 2599};
            for (int year : leap) {
                Check.equal("days of " + year, drive.daysOf(year), 366);
            }
            for (int year : common) {
                Check.equal("days of " + year, drive.daysOf(year), 365);
            }
        });
        Sentence.of(DESCRIPTION, "Years are start to start + 999.").holds(() -> {
            PlanetDrive drive = Check.driveOf("start 1999;");
            Check.equal("the first", drive.daysOf(1999), 365);
            Check.equal("the last", drive.daysOf(2998), 365);
            Check.refuses("before the first", Refusal.ARGUMENT, () -> drive.daysOf(1998));
            Check.refuses("behind the last", Refusal.ARGUMENT, () -> drive.daysOf(2999));
            Check.load(drive, "start 2001;");
            Check.refuses("before the new first", Refusal.ARGUMENT, () -> drive.daysOf(2000));
            Check.equal("the new last", drive.daysOf(3000), 365);
        });
    }

    private static int dayOf(int start, int year) {
        return (int) ChronoUnit.DAYS.between(LocalDate.of(start, 1, 1), LocalDate.of(year, 1, 1));
    }

    private static void ends() {
        Sentence.of(14, Sentence.A_YEAR, Sentence.NO_YEAR).holds(() -> Refusal.years(PlanetDrive::endOf));
        Sentence.of(14, "Returns the day with which a year ends.").holds(() -> {
            for (int start : STARTS) {
                PlanetDrive drive = Check.driveOf("start " + start + ";");
                for (int year : yearsFrom(start)) {
                    Check.equal("end of " + year + " from " + start, drive.endOf(year), dayOf(start, year + 1));
                }
            }
        });
        Sentence.of(DESCRIPTION, "Year y ends with the day that is the first one of year y + 1.").holds(() -> {
            PlanetDrive drive = new PlanetDrive();
            Check.equal("end of 2000", drive.endOf(2000), 366);
            Check.equal("day 365", drive.yearOf(365), 2000);
            Check.equal("day 366", drive.yearOf(366), 2001);
            Check.equal("end of 2999", drive.endOf(2999), 365243);
            Check.equal("its year", drive.yearOf(365243), 3000);
        });
    }

    private static void years() {
        Sentence.of(15, Sentence.A_DAY, Sentence.NO_DAY).holds(() -> {
            Refusal.range(Drives::fresh, 0, 400000, Refusal.ARGUMENT, PlanetDrive::yearOf);
            Refusal.within(0, 400000, PlanetDrive::yearOf);
        });
        Sentence.of(15, "Returns the year, which can be greater than start + 999.").holds(() -> {
            for (int start : STARTS) {
                PlanetDrive drive = Check.driveOf("start " + start + ";");
                int end = dayOf(start, start + 1000);
                Check.equal("the last day of start + 999", drive.yearOf(end - 1), start + 999);
                Check.equal("the day behind it", drive.yearOf(end), start + 1000);
                Check.equal("the last day", drive.yearOf(400000), LocalDate.of(start, 1, 1).plusDays(400000).getYear());
            }
        });
        Sentence.of(15, "Returns the year to which a day belongs.").holds(() -> {
            for (int start : STARTS) {
                PlanetDrive drive = Check.driveOf("start " + start + ";");
                for (int year : yearsFrom(start)) {
                    int day = dayOf(start, year);
                    Check.equal("the first day of " + year, drive.yearOf(day), year);
                    Check.equal("the day before it", day == 0 ? year - 1 : drive.yearOf(day - 1), year - 1);
                }
            }
        });
        Sentence.of(DESCRIPTION, "Day 0 is the first day of the start year.").holds(() -> {
            for (int start : STARTS) {
                Check.equal("day 0", Check.driveOf("start " + start + ";").yearOf(0), start);
            }
            Check.equal("without a text", new PlanetDrive().yearOf(0), 2000);
        });
    }

    private static void leapYears() {
        Sentence.of(47, "Throws `IllegalArgumentException` if one of the years is out of range or to is earlier than"
                + " from", "- `from`: a year", "- `to`: a year, not earlier").holds(() -> {
            Refusal.years((drive, year) -> drive.leapYears(year, drive.count(2) + 999));
            Refusal.years((drive, year) -> drive.leapYears(drive.count(2), year));
            Refusal.takes("the same year", Drives::fresh, drive -> drive.leapYears(2500, 2500));
            Refusal.refuses("the year before", Drives::fresh, Refusal.ARGUMENT, drive -> drive.leapYears(2500, 2499));
            Refusal.refuses("the other way round", Drives::fresh, Refusal.ARGUMENT,
                    drive -> drive.leapYears(2999, 2000));
        });
        Sentence.of(47, "Counts the years with 366 days, from one year to another one.").holds(() -> {
            PlanetDrive drive = Check.driveOf("start 1600;");
            int[][] due = {{1600, 1600, 1}, {1601, 1601, 0}, {1600, 1604, 2}, {1601, 1603, 0}, {1601, 1604, 1},
                {1696, 1704, 2}, {1697, 1703, 0}, {1996, 2004, 3}, {1999, 2001, 1}, {2599, 2599, 0}, {2596, 2599, 1},
                {1600, 2599, 243}, {1601, 2000, 97}, {2001, 2400, 97}};
            for (int[] row : due) {
                Check.equal("from " + row[0] + " to " + row[1], drive.leapYears(row[0], row[1]), row[2]);
            }
        });
    }

    // ---- gears ----

    private static void missing() {
        Sentence.of(39, Sentence.NO_BODY).holds(() -> Refusal.bodies(PlanetDrive::missing));
        Sentence.of(39, "Counts the gears of a train (idlers, too) whose numbers of teeth are not in the stock.")
                .holds(() -> {
                    PlanetDrive drive = Check.driveOf("stock 8;body a period 100;body b period 100;"
                            + "train a gear 8 9 idler 9 ring 9 8 idler 8;");
                    Check.equal("some", drive.missing(0), 3);
                    Check.equal("no train", drive.missing(1), 0);
                    drive.addStock(9);
                    Check.equal("none", drive.missing(0), 0);
                    drive.removeStock(8);
                    drive.removeStock(9);
                    Check.equal("all of the largest train", drive.missing(0), 6);
                });
    }

    private static void uses() {
        Sentence.of(50, "- `teeth`: a number of teeth").holds(() -> {
            for (int teeth : new int[] {0, 7, 101, -8, -1, Integer.MIN_VALUE, Integer.MAX_VALUE}) {
                Check.equal("uses " + teeth, Drives.full().uses(teeth), 0);
                Check.equal("uses " + teeth + " of none", new PlanetDrive().uses(teeth), 0);
                Twins.unchanged("uses " + teeth, Drives::full, drive -> drive.uses(teeth));
            }
            for (int far : FAR) {
                Check.equal("uses " + far + " of some", Drives.rich().uses(far), 0);
            }
        });
        Sentence.of(50, "Counts the gears of all trains (idlers, too) with some number of teeth.").holds(() -> {
            PlanetDrive drive = Drives.full();
            Check.equal("8", drive.uses(8), 8);
            Check.equal("10", drive.uses(10), 5);
            Check.equal("100", drive.uses(100), 6);
            Check.equal("101", drive.uses(101), 0);
            Check.equal("without bodies", new PlanetDrive().uses(8), 0);
        });
    }
}
