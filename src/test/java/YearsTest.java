/** Promises 13 to 15 and 47: days and years. */
public final class YearsTest {
    private static final Class<IllegalArgumentException> ARGUMENT = IllegalArgumentException.class;

    private YearsTest() {
    }

    public static void main(String[] args) {
        countsDaysOfYears();
        tellsTheEndsOfYears();
        tellsTheYearsOfDays();
        yearsAndDaysFitTogether();
        countsLeapYears();
        Check.end("YearsTest");
    }

    private static PlanetDrive startingIn(int start) {
        return Check.driveOf("start " + start + ";");
    }

    private static void countsDaysOfYears() {
        PlanetDrive drive = startingIn(1600);
        int[] leap = {1600, 1604, 1896, 1904, 2000, 2400, 2596};
        int[] common = {1601, 1602, 1603, 1700, 1800, 1900, 2100, 2500, 2599};
        for (int year : leap) {
            Check.equal("days of " + year, drive.daysOf(year), 366);
        }
        for (int year : common) {
            Check.equal("days of " + year, drive.daysOf(year), 365);
        }
        for (int wrong : new int[] {1599, 2600, 0, -1, Integer.MIN_VALUE, Integer.MAX_VALUE}) {
            Check.refuses("days of " + wrong, ARGUMENT, () -> drive.daysOf(wrong));
        }
        Check.equal("without a text", new PlanetDrive().daysOf(2999), 365);
        Check.refuses("before 2000", ARGUMENT, () -> new PlanetDrive().daysOf(1999));
    }

    private static void tellsTheEndsOfYears() {
        PlanetDrive drive = new PlanetDrive();
        int[][] due = {{2000, 366}, {2001, 731}, {2003, 1461}, {2004, 1827}, {2100, 36890}, {2400, 146463},
            {2999, 365243}};
        for (int[] pair : due) {
            Check.equal("end of " + pair[0], drive.endOf(pair[0]), pair[1]);
        }
        for (int wrong : new int[] {1999, 3000, 0, Integer.MIN_VALUE, Integer.MAX_VALUE}) {
            Check.refuses("end of " + wrong, ARGUMENT, () -> drive.endOf(wrong));
        }
        // A leap year just before the start does not count.
        Check.equal("end of 2001", startingIn(2001).endOf(2001), 365);
        Check.equal("end of 2004", startingIn(2001).endOf(2004), 1461);
        Check.equal("end of 1900", startingIn(1900).endOf(1900), 365);
        Check.equal("end of 3399", startingIn(2400).endOf(3399), 365243);
    }

    private static void tellsTheYearsOfDays() {
        PlanetDrive drive = new PlanetDrive();
        int[][] due = {{0, 2000}, {365, 2000}, {366, 2001}, {730, 2001}, {731, 2002}, {365242, 2999},
            {365243, 3000}, {400000, 3095}};
        for (int[] pair : due) {
            Check.equal("year of " + pair[0], drive.yearOf(pair[0]), pair[1]);
        }
        for (int wrong : new int[] {-1, 400001, Integer.MIN_VALUE, Integer.MAX_VALUE}) {
            Check.refuses("year of " + wrong, ARGUMENT, () -> drive.yearOf(wrong));
        }
        Check.equal("from 1600", startingIn(1600).yearOf(400000), 2695);
        Check.equal("from 2400", startingIn(2400).yearOf(400000), 3495);
    }

    private static void yearsAndDaysFitTogether() {
        // New objects all along, for each is used for at most 512 calls.
        for (int year = 1999; year < 2998; year += 100) {
            PlanetDrive drive = startingIn(1999);
            for (int next = year; next < year + 100 && next < 2998; next++) {
                int end = drive.endOf(next);
                Check.equal("the last day of " + next, drive.yearOf(end - 1), next);
                Check.equal("the day with which " + next + " ends", drive.yearOf(end), next + 1);
                Check.equal("the length of the year behind " + next, drive.endOf(next + 1) - end,
                        drive.daysOf(next + 1));
            }
        }
    }

    private static void countsLeapYears() {
        PlanetDrive drive = startingIn(1600);
        Check.equal("all", drive.leapYears(1600, 2599), 243);
        Check.equal("one", drive.leapYears(2000, 2000), 1);
        Check.equal("none", drive.leapYears(1900, 1900), 0);
        Check.equal("1897 to 1903", drive.leapYears(1897, 1903), 0);
        Check.equal("1996 to 2004", drive.leapYears(1996, 2004), 3);
        Check.equal("1601 to 1604", drive.leapYears(1601, 1604), 1);
        int[][] wrong = {{1599, 1700}, {1600, 2600}, {1700, 1699}, {2600, 1599}, {Integer.MIN_VALUE, 1700},
            {1600, Integer.MAX_VALUE}, {Integer.MAX_VALUE, Integer.MIN_VALUE}};
        for (int[] pair : wrong) {
            Check.refuses("from " + pair[0] + " to " + pair[1], ARGUMENT, () -> drive.leapYears(pair[0], pair[1]));
        }
    }
}
