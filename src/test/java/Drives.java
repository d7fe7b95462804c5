/** The drives that the tests of the sentences begin with; each call makes the same one anew. */
final class Drives {
    static final int RICH_BODIES = 4;
    static final int FULL_BODIES = 8;

    private static final String RICH = "stock 10 20 40;start 1996;slack 30;"
            + "body sun period 300;body moon period 200 retro on sun;body io period 36525;body pan period 250 on sun;"
            + "train sun ring 10 20 ring 30 25;train moon idler 9 gear 12 10;train pan gear 8 9 idler 10 ring 11 12;";
    private static final String FULL = "stock 8 9 10 11 12 13 14 15 16 17 18 19 20 21 22 23;start 2400;slack 999;"
            + "body a period 100;body bb period 9999999 retro;body c period 36525 on a;body d period 2732 retro on bb;"
            + "body e period 300 on a;body f period 8797;body g period 225;body hhhhhhhh period 700 retro on g;"
            + "train a ring 10 20 idler 9;train bb gear 8 9 idler 10 ring 11 12 idler 13;"
            + "train c idler 8 idler 9 idler 10 idler 11;train d ring 100 8 gear 100 8 idler 100 idler 100;"
            + "train e gear 8 100 ring 8 100 idler 8 idler 8;train f idler 20 gear 20 30 idler 20 gear 30 40;"
            + "train g ring 97 89 idler 10 idler 11 ring 83 79;train hhhhhhhh gear 10 70;";

    private Drives() {
    }

    static PlanetDrive fresh() {
        return new PlanetDrive();
    }

    /** Something of everything: lags, changes, a saved state, output, an error, and a text that waits. */
    static PlanetDrive rich() {
        PlanetDrive drive = Check.driveOf(RICH);
        drive.crank(500);
        drive.saveState();
        drive.crank(400);
        drive.addStock(30);
        drive.printTrain(0);
        Check.load(drive, "slack 1000;");
        Check.type(drive, "slack 7;");
        return drive;
    }

    /** 8 bodies, 16 numbers in the stock, trains of 4 parts, 12 changes and one more, 900 bytes. */
    static PlanetDrive full() {
        PlanetDrive drive = Check.driveOf(FULL);
        for (int n = 0; n < 13; n++) {
            drive.crank(n % 2 == 0 ? 400000 - n : 5 * n);
            if (n == 6) {
                drive.saveState();
            }
        }
        drive.printTrain(1);
        Check.type(drive, "slack 8;" + " ".repeat(892));
        return drive;
    }

    static PlanetDrive startingIn(int start) {
        return Check.driveOf("start " + start + ";body a period 300;body b period 200 retro on a;body c period 100;"
                + "train a ring 10 20;train b gear 20 30;");
    }
}
