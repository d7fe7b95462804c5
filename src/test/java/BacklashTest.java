/** Promises 36 to 38: the backlash of the meshes, and the lag that it makes. */
public final class BacklashTest {
    private static final Class<IndexOutOfBoundsException> INDEX = IndexOutOfBoundsException.class;

    // The body on the carrier goes back by 1/9702 turn a day, some 133.6 arcseconds.
    private static final String SLOW = "slack 999;body fast period 100;body slow period 100 on fast;"
            + "train fast ring 97 98;train slow gear 98 99;";

    private BacklashTest() {
    }

    public static void main(String[] args) {
        sumsTheMeshes();
        turnsToAndFro();
        changesOfTrainsFreeTheLag();
        cranksByTheTrainsOfThen();
        refusesBodies();
        Check.end("BacklashTest");
    }

    private static void sumsTheMeshes() {
        PlanetDrive drive = Check.driveOf("slack 45;body sun period 36525;body moon period 2732 on sun;"
                + "body far period 300 on sun;train sun gear 8 12 ring 30 100;"
                + "train moon idler 9 gear 10 12 idler 12 gear 12 8;");
        // 45 * 3/10 + 45, rounded down.
        Check.equal("gear and ring", drive.backlash(0), 58);
        // 90 * 5/4 + 45 * 3/2 + 90 * 3/2 + 45: exact until the end, for each by itself makes 359.
        Check.equal("idlers are two meshes", drive.backlash(1), 360);
        Check.equal("without a train", drive.backlash(2), 0);
        drive.setSlack(0);
        Check.equal("without slack", drive.backlash(1), 0);
        drive.setSlack(999);
        Check.equal("the most slack", drive.backlash(0), 1298);
        drive.removePart(0);
        Check.equal("one part", drive.backlash(0), 999);
        drive.removePart(1);
        drive.removePart(1);
        Check.equal("the gear and the idler in front of it", drive.backlash(1), 2664);
        PlanetDrive large = Check.driveOf("slack 999;body a period 100;train a idler 8 idler 8 gear 100 8 gear 100 8;");
        Check.equal("the greatest of all", large.backlash(0), 637861);
    }

    private static void stands(PlanetDrive drive, int day, int[] lags, int[] shown) {
        drive.crank(day);
        for (int body = 0; body < lags.length; body++) {
            Check.equal("lag of " + body + " on day " + day, drive.lag(body), lags[body]);
            Check.equal("shown by " + body + " on day " + day, drive.shown(body), shown[body]);
        }
    }

    private static void turnsToAndFro() {
        PlanetDrive drive = Check.driveOf(SLOW);
        stands(drive, 0, new int[] {0, 0}, new int[] {0, 0});
        stands(drive, 1, new int[] {0, 134}, new int[] {1282775, 0});
        stands(drive, 2, new int[] {0, 268}, new int[] {1269551, 0});
        stands(drive, 1, new int[] {999, 134}, new int[] {1283774, 0});
        stands(drive, 1, new int[] {999, 134}, new int[] {1283774, 0});
        stands(drive, 0, new int[] {999, 0}, new int[] {999, 0});
        stands(drive, 100, new int[] {0, 999}, new int[] {1269551, 1283640});
        stands(drive, 97, new int[] {999, 598}, new int[] {14223, 1283640});
        stands(drive, 96, new int[] {999, 464}, new int[] {27447, 1283640});
        stands(drive, 50, new int[] {999, 0}, new int[] {635774, 1289320});
        stands(drive, 400000, new int[] {0, 999}, new int[] {476081, 1000716});
        stands(drive, 399999, new int[] {999, 865}, new int[] {490305, 1000716});
        stands(drive, 3, new int[] {999, 0}, new int[] {1257325, 1295599});
    }

    private static void changesOfTrainsFreeTheLag() {
        for (int change = 0; change < 6; change++) {
            PlanetDrive drive = Check.driveOf(SLOW + "stock 97 98 99;");
            drive.crank(1);
            drive.crank(2);
            drive.crank(1);
            Check.equal("changed", changeOf(drive, change), new int[] {0, 2, 99, 2, 1, 1}[change]);
            Check.equal("lag of the changed train " + change, drive.lag(0), 0);
            Check.equal("lag of the other train " + change, drive.lag(1), change == 4 ? 0 : 134);
            Check.equal("shown by the changed train " + change, drive.shown(0), drive.angle(0, 1));
            drive.undo();
            Check.equal("lag again " + change, drive.lag(0), 999);
            Check.equal("other lag again " + change, drive.lag(1), 134);
        }
    }

    private static int changeOf(PlanetDrive drive, int change) {
        switch (change) {
            case 0:
                return drive.removePart(0);
            case 1:
                return drive.addPart(0, 2, 8, 0);
            case 2:
                return drive.improve(0) > 0 ? 99 : 0;
            case 3:
                return drive.build(0);
            case 4:
                return drive.swapTrains(0, 1);
            default:
                return drive.copyTrain(1, 0);
        }
    }

    private static void cranksByTheTrainsOfThen() {
        // Nothing of a new train was turned before, whatever the drum of the old one stood at.
        PlanetDrive drive = Check.driveOf(SLOW);
        drive.crank(10);
        drive.copyTrain(1, 0);
        drive.crank(11);
        Check.equal("a train that runs backward", drive.lag(0), 999);
        drive.addPart(0, 2, 9, 0);
        drive.crank(12);
        Check.equal("a train that runs forward", drive.lag(0), 0);
        // Without a train there is no backlash, though the carrier turns the pointer.
        drive.removePart(1);
        drive.crank(5);
        Check.equal("no train", drive.lag(1), 0);
        Check.equal("shown", drive.shown(1), drive.angle(1, 5));
    }

    private static void refusesBodies() {
        PlanetDrive drive = Check.driveOf(SLOW);
        for (int wrong : new int[] {-1, 2, 8, Integer.MIN_VALUE, Integer.MAX_VALUE}) {
            Check.refuses("backlash " + wrong, INDEX, () -> drive.backlash(wrong));
            Check.refuses("lag " + wrong, INDEX, () -> drive.lag(wrong));
            Check.refuses("shown " + wrong, INDEX, () -> drive.shown(wrong));
        }
    }
}
