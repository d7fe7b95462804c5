/** Promises 25 to 28, 40, 48 and 49: searches for gears, fractions and meetings. */
public final class SearchTest {
    private static final Class<IndexOutOfBoundsException> INDEX = IndexOutOfBoundsException.class;
    private static final Class<IllegalArgumentException> ARGUMENT = IllegalArgumentException.class;

    private static final String STOCK = "stock 30 8 97 12 25 20;";
    private static final String BODIES = "body mercury period 8797;body moon period 2732 retro on mercury;"
            + "body three period 300;body star period 100;";
    // Ratios: 1/88, 521/11000, -1/70 and 1.
    private static final String TRAINS = "body a period 8797;body b period 2732 on a;"
            + "body c period 7000 retro;body d period 100;"
            + "train a gear 10 88 gear 9 90;train b ring 9 100 gear 30 75 idler 20;"
            + "train c gear 10 70 ring 10 100;train d ring 20 20;";
    private static final int[] WRONG_BODIES = {-1, 4, 8, Integer.MIN_VALUE, Integer.MAX_VALUE};

    private SearchTest() {
    }

    public static void main(String[] args) {
        findsPairs();
        breaksTiesOfPairs();
        findsTrains();
        breaksTiesOfTrains();
        findsConvergents();
        findsFractions();
        findsMeetings();
        tellsMeetingTimes();
        findsTheAligned();
        Check.end("SearchTest");
    }

    private static void pair(PlanetDrive drive, int body, int a, int b) {
        Check.equal("A for " + body, drive.bestPair(body, 0), a);
        Check.equal("B for " + body, drive.bestPair(body, 1), b);
    }

    private static void findsPairs() {
        PlanetDrive drive = Check.driveOf(STOCK + BODIES);
        pair(drive, 0, 8, 97);
        pair(drive, 1, 8, 97);
        pair(drive, 2, 8, 25);
        pair(drive, 3, 25, 30);
        for (int wrong : WRONG_BODIES) {
            Check.refuses("body " + wrong, INDEX, () -> drive.bestPair(wrong, 0));
            Check.refuses("body first", INDEX, () -> drive.bestPair(wrong, -1));
        }
        for (int wrong : new int[] {-1, 2, Integer.MIN_VALUE, Integer.MAX_VALUE}) {
            Check.refuses("what " + wrong, ARGUMENT, () -> drive.bestPair(0, wrong));
        }
        PlanetDrive poor = Check.driveOf("stock 8;body a period 100;");
        pair(poor, 0, -1, -1);
        Check.refuses("what with a poor stock", ARGUMENT, () -> poor.bestPair(0, 2));
        poor.removeStock(8);
        pair(poor, 0, -1, -1);
        poor.addStock(9);
        poor.addStock(10);
        pair(poor, 0, 9, 10);
    }

    private static void breaksTiesOfPairs() {
        // 8/16 and 10/20 are the same.
        pair(Check.driveOf("stock 20 16 10 8;body a period 200;"), 0, 8, 16);
        pair(Check.driveOf("stock 18 12 20 30;body a period 150;"), 0, 12, 18);
        // The own ratio should be 13/12, just between 8/12 and 12/8.
        pair(Check.driveOf("stock 8 12;body a period 1200 retro;body b period 100 on a;"), 1, 8, 12);
        // 3/2 is due.
        pair(Check.driveOf("stock 8 12;body a period 200 retro;body b period 100 on a;"), 1, 12, 8);
    }

    private static void train(PlanetDrive drive, int body, int a, int b, int c, int d) {
        int[] due = {a, b, c, d};
        for (int what = 0; what < 4; what++) {
            Check.equal("number " + what + " for " + body, drive.bestTrain(body, what), due[what]);
        }
    }

    private static void findsTrains() {
        PlanetDrive drive = Check.driveOf(STOCK + BODIES);
        train(drive, 0, 8, 97, 12, 97);
        train(drive, 1, 8, 20, 12, 97);
        train(drive, 2, 8, 20, 25, 30);
        train(drive, 3, 8, 12, 12, 8);
        for (int wrong : WRONG_BODIES) {
            Check.refuses("body " + wrong, INDEX, () -> drive.bestTrain(wrong, 0));
            Check.refuses("body first", INDEX, () -> drive.bestTrain(wrong, -1));
        }
        for (int wrong : new int[] {-1, 4, Integer.MIN_VALUE, Integer.MAX_VALUE}) {
            Check.refuses("what " + wrong, ARGUMENT, () -> drive.bestTrain(0, wrong));
        }
        PlanetDrive poor = Check.driveOf("stock 8;body a period 100;");
        train(poor, 0, -1, -1, -1, -1);
        Check.refuses("what with a poor stock", ARGUMENT, () -> poor.bestTrain(0, 4));
        Check.equal("not changed", drive.body(0, 3), 0);
    }

    private static void breaksTiesOfTrains() {
        train(Check.driveOf("stock 8 10 16 20;body a period 200;"), 0, 8, 10, 10, 16);
        train(Check.driveOf("stock 10 12 14 15;body a period 107;"), 0, 10, 15, 14, 10);
        // 10/30 * 10/30 is as far from 5/9 as 10/30 * 30/10: the one with the smaller C.
        train(Check.driveOf("stock 10 30;body a period 180;"), 0, 10, 30, 10, 30);
        train(Check.driveOf("stock 12 13 26 28;body a period 104;"), 0, 12, 13, 28, 26);
        // A smaller sum goes before a smaller second number.
        train(Check.driveOf("stock 12 13 17;body a period 136;"), 0, 12, 17, 13, 12);
        train(Check.driveOf("stock 9 18 25 30;body a period 125;"), 0, 9, 30, 25, 9);
        // 2 is due, and 9/4 is nearer to it than 1.
        train(Check.driveOf("stock 8 12;body a period 100 retro;body b period 100 on a;"), 1, 12, 8, 12, 8);
    }

    private static void convergents(PlanetDrive drive, int body, long[][] due) {
        for (int index = 0; index < due.length; index++) {
            Check.equal("numerator " + index + " of " + body, drive.convergent(body, index, 0), due[index][0]);
            Check.equal("denominator " + index + " of " + body, drive.convergent(body, index, 1), due[index][1]);
        }
        for (int index : new int[] {due.length, due.length + 1, Integer.MAX_VALUE}) {
            Check.equal("behind the last, " + index, drive.convergent(body, index, 0), -1);
            Check.equal("behind the last, " + index, drive.convergent(body, index, 1), -1);
        }
    }

    private static void findsConvergents() {
        PlanetDrive drive = Check.driveOf("body a period 8797;body b period 2732 retro on a;body c period 100;"
                + "body d period 9999991;body e period 250;");
        convergents(drive, 0, new long[][] {{0, 1}, {1, 87}, {1, 88}, {33, 2903}, {100, 8797}});
        convergents(drive, 1, new long[][] {{0, 1}, {1, 27}, {3, 82}, {25, 683}});
        convergents(drive, 2, new long[][] {{1, 1}});
        convergents(drive, 3, new long[][] {{0, 1}, {1, 99999}, {1, 100000}, {11, 1099999}, {100, 9999991}});
        convergents(drive, 4, new long[][] {{0, 1}, {1, 2}, {2, 5}});
        for (int wrong : new int[] {-1, 5, 8, Integer.MIN_VALUE, Integer.MAX_VALUE}) {
            Check.refuses("body " + wrong, INDEX, () -> drive.convergent(wrong, 0, 0));
            Check.refuses("body first", INDEX, () -> drive.convergent(wrong, -1, -1));
        }
        for (int wrong : new int[] {-1, Integer.MIN_VALUE}) {
            Check.refuses("index " + wrong, ARGUMENT, () -> drive.convergent(0, wrong, 0));
        }
        for (int wrong : new int[] {-1, 2, Integer.MIN_VALUE, Integer.MAX_VALUE}) {
            Check.refuses("what " + wrong, ARGUMENT, () -> drive.convergent(0, 0, wrong));
            Check.refuses("what behind the last", ARGUMENT, () -> drive.convergent(0, 99, wrong));
        }
    }

    private static void fraction(int period, int limit, int top, int bottom) {
        PlanetDrive drive = Check.driveOf("body a period " + period + " retro;");
        Check.equal("numerator for " + period + " to " + limit, drive.bestFraction(0, limit, 0), top);
        Check.equal("denominator for " + period + " to " + limit, drive.bestFraction(0, limit, 1), bottom);
    }

    private static void findsFractions() {
        fraction(36525, 1, 0, 1);
        fraction(36525, 182, 0, 1);
        fraction(36525, 183, 1, 183);
        fraction(36525, 366, 1, 365);
        fraction(36525, 1461, 4, 1461);
        fraction(2732, 28, 1, 27);
        fraction(8797, 10000, 100, 8797);
        fraction(9999991, 10000, 0, 1);
        fraction(100, 10000, 1, 1);
        fraction(150, 1, 1, 1);
        fraction(150, 2, 1, 2);
        fraction(150, 3, 2, 3);
        // 0 and 1 are as far from 1/2; from 1/4 are 0 and 1/2.
        fraction(200, 1, 0, 1);
        fraction(400, 2, 0, 1);
        fraction(400, 3, 1, 3);
        PlanetDrive drive = Check.driveOf(BODIES);
        for (int wrong : WRONG_BODIES) {
            Check.refuses("body " + wrong, INDEX, () -> drive.bestFraction(wrong, 1, 0));
            Check.refuses("body first", INDEX, () -> drive.bestFraction(wrong, 0, -1));
        }
        for (int wrong : new int[] {0, -1, 10001, Integer.MIN_VALUE, Integer.MAX_VALUE}) {
            Check.refuses("limit " + wrong, ARGUMENT, () -> drive.bestFraction(0, wrong, 0));
        }
        for (int wrong : new int[] {-1, 2, Integer.MIN_VALUE, Integer.MAX_VALUE}) {
            Check.refuses("what " + wrong, ARGUMENT, () -> drive.bestFraction(0, 1, wrong));
        }
    }

    private static void findsMeetings() {
        PlanetDrive drive = Check.driveOf(TRAINS);
        int[][] due = {{0, 1, 0, 0, 250}, {1, 0, 0, 0, 250}, {0, 1, 390000, 1000, 390250}, {0, 2, 0, 0, 3080},
            {0, 2, 100, 5000, 117}, {1, 1, 5, 0, 6}, {0, 3, 0, 0, 88}, {0, 3, 87, 0, 88}, {0, 3, 88, 0, 176},
            {0, 3, 80, 14727, 88}, {0, 3, 86, 14727, 88}, {0, 3, 86, 14728, 87}, {0, 1, 0, 648000, 1}, {1, 2, 0, 10, -1}};
        for (int[] row : due) {
            Check.equal("next meeting of " + row[0] + " and " + row[1] + " behind " + row[2] + " within " + row[3],
                    drive.nextMeeting(row[0], row[1], row[2], row[3]), row[4]);
        }
        for (int wrong : WRONG_BODIES) {
            Check.refuses("body " + wrong, INDEX, () -> drive.nextMeeting(wrong, 0, 0, 0));
            Check.refuses("other " + wrong, INDEX, () -> drive.nextMeeting(0, wrong, 0, 0));
            Check.refuses("other first", INDEX, () -> drive.nextMeeting(0, wrong, -1, -1));
        }
        for (int wrong : new int[] {-1, 390001, Integer.MIN_VALUE, Integer.MAX_VALUE}) {
            Check.refuses("day " + wrong, ARGUMENT, () -> drive.nextMeeting(0, 1, wrong, 0));
        }
        for (int wrong : new int[] {-1, 648001, Integer.MIN_VALUE, Integer.MAX_VALUE}) {
            Check.refuses("orb " + wrong, ARGUMENT, () -> drive.nextMeeting(0, 1, 0, wrong));
        }
        findsTheLastOfTheDays();
    }

    private static void findsTheLastOfTheDays() {
        PlanetDrive drive = Check.driveOf("body a period 100;body b period 100;body c period 100;body d period 100;"
                + "train a gear 73 100 gear 89 100;train c gear 10 97 gear 10 89;train d ring 20 30;");
        Check.equal("every 10000 days", drive.nextMeeting(0, 1, 0, 0), 10000);
        Check.equal("the day itself does not count", drive.nextMeeting(0, 1, 10000, 0), 20000);
        Check.equal("the last day of all", drive.nextMeeting(0, 1, 390000, 0), 400000);
        Check.equal("every 25899 days", drive.nextMeeting(2, 3, 0, 0), -1);
        Check.equal("the 10001st day", drive.nextMeeting(2, 3, 15898, 0), -1);
        Check.equal("the 10000th day", drive.nextMeeting(2, 3, 15899, 0), 25899);
    }

    private static void tellsMeetingTimes() {
        PlanetDrive drive = Check.driveOf(TRAINS);
        int[][] due = {{0, 1, 250, 9}, {1, 0, 250, 9}, {0, 2, 3080, 79}, {0, 3, 88, 87}, {2, 3, 70, 71}};
        for (int[] row : due) {
            Check.equal("numerator " + row[0] + " " + row[1], drive.meetingTime(row[0], row[1], 0), row[2]);
            Check.equal("denominator " + row[0] + " " + row[1], drive.meetingTime(row[0], row[1], 1), row[3]);
        }
        Check.equal("with itself", drive.meetingTime(1, 1, 0), -1);
        Check.equal("with itself", drive.meetingTime(1, 1, 1), -1);
        for (int wrong : WRONG_BODIES) {
            Check.refuses("body " + wrong, INDEX, () -> drive.meetingTime(wrong, 0, 0));
            Check.refuses("other " + wrong, INDEX, () -> drive.meetingTime(0, wrong, 0));
            Check.refuses("other first", INDEX, () -> drive.meetingTime(0, wrong, -1));
        }
        for (int wrong : new int[] {-1, 2, Integer.MIN_VALUE, Integer.MAX_VALUE}) {
            Check.refuses("what " + wrong, ARGUMENT, () -> drive.meetingTime(0, 1, wrong));
            Check.refuses("what with itself", ARGUMENT, () -> drive.meetingTime(1, 1, wrong));
        }
        PlanetDrive large = Check.driveOf("body a period 100;body b period 100 on a;body c period 100;"
                + "body d period 100 on c;train a gear 97 89 ring 97 83;train b gear 79 97 ring 83 89;"
                + "train c gear 71 73 ring 89 79;train d gear 67 99 ring 73 100;");
        Check.equal("large numerator", large.meetingTime(1, 3, 0), 40909576088700L);
        Check.equal("large denominator", large.meetingTime(1, 3, 1), 18143155227317L);
    }

    private static void findsTheAligned() {
        PlanetDrive drive = Check.driveOf(TRAINS);
        int[][] due = {{0, 0, 0, 15}, {0, 1, 14727, 9}, {0, 1, 14726, 1}, {0, 22, 324000, 11}, {0, 22, 323999, 3},
            {0, 22, 648000, 15}, {0, 400000, 0, 3}, {1, 400000, 0, 3}, {2, 1, 18515, 12}, {2, 1, 18514, 4},
            {3, 7, 0, 8}};
        for (int[] row : due) {
            Check.equal("near " + row[0] + " by " + row[1] + " within " + row[2],
                    drive.aligned(row[0], row[1], row[2]), row[3]);
        }
        for (int wrong : WRONG_BODIES) {
            Check.refuses("body " + wrong, INDEX, () -> drive.aligned(wrong, 0, 0));
            Check.refuses("body first", INDEX, () -> drive.aligned(wrong, -1, -1));
        }
        for (int wrong : new int[] {-1, 400001, Integer.MIN_VALUE, Integer.MAX_VALUE}) {
            Check.refuses("day " + wrong, ARGUMENT, () -> drive.aligned(0, wrong, 0));
        }
        for (int wrong : new int[] {-1, 648001, Integer.MIN_VALUE, Integer.MAX_VALUE}) {
            Check.refuses("orb " + wrong, ARGUMENT, () -> drive.aligned(0, 0, wrong));
        }
    }
}
